section GLC
variable {p : Program} {l : Launch} {e : Env} {s : State} {m : MethodId} {below : List Frame} {meth : Method} {c : Code} {b L : Nat} {xs : Nat → Int32} {E : gT} {σ : gS} {d0 : Drawn} {cells slots j : Nat}
set_option maxRecDepth 100000 in
set_option maxHeartbeats 4000000 in
theorem law_bed (C : gLC p l s m meth c b L xs E) (hj : j + 3 < L) (hc : cells + 3 ≤ 672043) (hs : slots + 18 ≤ 7079974) (hok : tOK σ 1) (hmk : mOK (sL_bed_s σ (xs (j + 1)) (xs (j + 2)))) (h1 : (sX8_bed_s (sL_bed_s σ (xs (j + 1)) (xs (j + 2))) (xs (j + 1)) (xs (j + 2))).1 57 0 = (sL_bed_r σ (xs (j + 1)) (xs (j + 2)))) (h2 : (sL_bed_r σ (xs (j + 1)) (xs (j + 2))) = 0 → (sX8_bed_s (sL_bed_s σ (xs (j + 1)) (xs (j + 2))) (xs (j + 1)) (xs (j + 2))).2 0 = (Int32.toInt64 (sX8_bed_r (sL_bed_s σ (xs (j + 1)) (xs (j + 2))) (xs (j + 1)) (xs (j + 2)))))
    (kk : gLJ p l e s m below meth c b d0 E (sX8_bed_s (sL_bed_s σ (xs (j + 1)) (xs (j + 2))) (xs (j + 1)) (xs (j + 2))) (cells + 3) (slots + 18) 1622 (lvL E b j) []) : gLJ p l e s m below meth c b d0 E σ cells slots 148 (lvL E b j) [] := by
  have S := gS_dr C.1 d0
  have hC := C.2.2.2.1.dr d0
  have hfl := C.2.2.2.2.2.2.2.1
  unfold gLJ at kk ⊢
  unfold lvL at kk ⊢
  refine g_aload_n S 3 dL_law_148 rfl ?_
  refine g_aload_n S 4 dL_law_149 rfl ?_
  refine g_iload S 0 dL_law_150 rfl ?_
  refine g_const S dL_law_152 (v := 1) rfl ?_
  refine g_iadd S dL_law_153 ?_
  refine g_sld C S (q := j + 1) (nI_add j 1) (by omega) dL_law_154 ?_
  refine g_aload_n S 4 dL_law_155 rfl ?_
  refine g_iload S 0 dL_law_156 rfl ?_
  refine g_const S dL_law_158 (v := 2) rfl ?_
  refine g_iadd S dL_law_159 ?_
  refine g_sld C S (q := j + 2) (nI_add j 2) (by omega) dL_law_160 ?_
  refine g_aload_n S 1 dL_law_161 rfl ?_
  refine g_calli (g_runSW S hC (As := [.ref (E.2.2 0), .int (xs (j + 1)), .int (xs (j + 2)), .ref (E.2.2 64)]) (rest := []) (kL_bed l hfl E σ (xs (j + 1)) (xs (j + 2)) hok) (vx_cwSW 4 S.2.2.2.2 gL_law_L_bed rfl rfl rfl (by decide +kernel) ⟨Nat.le_of_ble_eq_true rfl, Nat.le_of_ble_eq_true rfl⟩) rfl rfl (Nat.le_of_ble_eq_true rfl) dL_law_162 ⟨hc, hs⟩) ?_
  refine g_istore S [(5, .int (sL_bed_r σ (xs (j + 1)) (xs (j + 2)))), (4, .int (nI j)), (3, .ref (E.2.2 64)), (2, .ref (E.2.2 57)), (1, .ref (E.2.2 0)), (0, .ref b)] dL_law_165 (by decide) rfl ?_
  refine g_aload_n S 3 dL_law_167 rfl ?_
  refine g_aload_n S 5 dL_law_168 rfl ?_
  refine g_iload S 1 dL_law_169 rfl ?_
  refine g_const S dL_law_171 (v := 1) rfl ?_
  refine g_iadd S dL_law_172 ?_
  refine g_sld C S (q := j + 1) (nI_add j 1) (by omega) dL_law_173 ?_
  refine g_aload_n S 5 dL_law_174 rfl ?_
  refine g_iload S 1 dL_law_175 rfl ?_
  refine g_const S dL_law_177 (v := 2) rfl ?_
  refine g_iadd S dL_law_178 ?_
  refine g_sld C S (q := j + 2) (nI_add j 2) (by omega) dL_law_179 ?_
  refine g_calli (g_runV S hC (As := [.int (xs (j + 1)), .int (xs (j + 2))]) (rest := []) (k := 57) (by decide) rfl (by decide) rfl (kX8_bed l E (sL_bed_s σ (xs (j + 1)) (xs (j + 2))) (xs (j + 1)) (xs (j + 2)) hmk) (cwV 2 S.2.2.2.2 gL_law_X8_bed rfl rfl rfl (by decide +kernel) ⟨Nat.le_of_ble_eq_true rfl, Nat.le_of_ble_eq_true rfl⟩) rfl rfl (Nat.le_of_ble_eq_true rfl) dL_law_180 ⟨by show _ ≤ 672043; omega, by show _ ≤ 7079974; omega⟩) ?_
  refine g_istore S [(6, .int (sX8_bed_r (sL_bed_s σ (xs (j + 1)) (xs (j + 2))) (xs (j + 1)) (xs (j + 2)))), (5, .int (sL_bed_r σ (xs (j + 1)) (xs (j + 2)))), (4, .int (nI j)), (3, .ref (E.2.2 64)), (2, .ref (E.2.2 57)), (1, .ref (E.2.2 0)), (0, .ref b)] dL_law_183 (by decide) rfl ?_
  refine g_aload_n S 4 dL_law_185 rfl ?_
  refine g_calli (g_runV S hC (As := []) (rest := []) (k := 57) (by decide) rfl (by decide) rfl (kX8_thrown l E (sX8_bed_s (sL_bed_s σ (xs (j + 1)) (xs (j + 2))) (xs (j + 1)) (xs (j + 2)))) (cwV 0 S.2.2.2.2 gL_law_X8_thrown rfl rfl rfl (by decide +kernel) ⟨Nat.le_of_ble_eq_true rfl, Nat.le_of_ble_eq_true rfl⟩) rfl rfl (Nat.le_of_ble_eq_true rfl) dL_law_186 ⟨by show _ ≤ 672043; omega, by show _ ≤ 7079974; omega⟩) ?_
  refine g_iload S 1 dL_law_189 rfl ?_
  refine g_icmp_eq S 196 dL_law_191 (by decide) (fun c1 => ?_) (fun c1 => absurd h1 c1)
  refine g_iload S 1 dL_law_196 rfl ?_
  refine g_if_ne S 213 dL_law_198 (by decide) (fun c2 => ?_) (fun c2 => ?_)
  · skip
    refine g_goto S 1622 dL_law_213 (by decide) ?_
    refine g_lvs [2, 3, 4, 5, 6] (lv' := [(4, .int (nI j)), (3, .ref (E.2.2 64)), (2, .ref (E.2.2 57)), (1, .ref (E.2.2 0)), (0, .ref b)]) rfl ?_
    exact kk
  · have h3 := h2 c2
    refine g_aload_n S 3 dL_law_201 rfl ?_
    refine g_const S dL_law_202 (v := 0) rfl ?_
    refine g_lald S hC rfl dL_law_203 ?_
    refine g_iload S 0 dL_law_204 rfl ?_
    refine g_i2l S dL_law_206 ?_
    refine g_lcmp S dL_law_207 ?_
    refine g_if_eq S 213 dL_law_208 (by decide) (fun c3 => ?_) (fun c3 => absurd (by rw [h3]; exact lg_cmp_self _) c3)
    refine g_goto S 1622 dL_law_213 (by decide) ?_
    refine g_lvs [2, 3, 4, 5, 6] (lv' := [(4, .int (nI j)), (3, .ref (E.2.2 64)), (2, .ref (E.2.2 57)), (1, .ref (E.2.2 0)), (0, .ref b)]) rfl ?_
    exact kk
set_option maxRecDepth 100000 in
set_option maxHeartbeats 4000000 in
theorem law_drum (C : gLC p l s m meth c b L xs E) (hj : j + 3 < L) (hc : cells + 3 ≤ 672043) (hs : slots + 18 ≤ 7079974) (hok : tOK σ 1) (hmk : mOK (sL_drum_s σ (xs (j + 1)) (xs (j + 2)))) (h1 : (sX8_drum_s (sL_drum_s σ (xs (j + 1)) (xs (j + 2))) (xs (j + 1)) (xs (j + 2))).1 57 0 = (sL_drum_r σ (xs (j + 1)) (xs (j + 2)))) (h2 : (sL_drum_r σ (xs (j + 1)) (xs (j + 2))) = 0 → (sX8_drum_s (sL_drum_s σ (xs (j + 1)) (xs (j + 2))) (xs (j + 1)) (xs (j + 2))).2 0 = (Int32.toInt64 (sX8_drum_r (sL_drum_s σ (xs (j + 1)) (xs (j + 2))) (xs (j + 1)) (xs (j + 2)))))
    (kk : gLJ p l e s m below meth c b d0 E (sX8_drum_s (sL_drum_s σ (xs (j + 1)) (xs (j + 2))) (xs (j + 1)) (xs (j + 2))) (cells + 3) (slots + 18) 1622 (lvL E b j) []) : gLJ p l e s m below meth c b d0 E σ cells slots 216 (lvL E b j) [] := by
  have S := gS_dr C.1 d0
  have hC := C.2.2.2.1.dr d0
  have hfl := C.2.2.2.2.2.2.2.1
  unfold gLJ at kk ⊢
  unfold lvL at kk ⊢
  refine g_aload_n S 3 dL_law_216 rfl ?_
  refine g_aload_n S 4 dL_law_217 rfl ?_
  refine g_iload S 0 dL_law_218 rfl ?_
  refine g_const S dL_law_220 (v := 1) rfl ?_
  refine g_iadd S dL_law_221 ?_
  refine g_sld C S (q := j + 1) (nI_add j 1) (by omega) dL_law_222 ?_
  refine g_aload_n S 4 dL_law_223 rfl ?_
  refine g_iload S 0 dL_law_224 rfl ?_
  refine g_const S dL_law_226 (v := 2) rfl ?_
  refine g_iadd S dL_law_227 ?_
  refine g_sld C S (q := j + 2) (nI_add j 2) (by omega) dL_law_228 ?_
  refine g_aload_n S 1 dL_law_229 rfl ?_
  refine g_calli (g_runSW S hC (As := [.ref (E.2.2 0), .int (xs (j + 1)), .int (xs (j + 2)), .ref (E.2.2 64)]) (rest := []) (kL_drum l hfl E σ (xs (j + 1)) (xs (j + 2)) hok) (vx_cwSW 4 S.2.2.2.2 gL_law_L_drum rfl rfl rfl (by decide +kernel) ⟨Nat.le_of_ble_eq_true rfl, Nat.le_of_ble_eq_true rfl⟩) rfl rfl (Nat.le_of_ble_eq_true rfl) dL_law_230 ⟨hc, hs⟩) ?_
  refine g_istore S [(5, .int (sL_drum_r σ (xs (j + 1)) (xs (j + 2)))), (4, .int (nI j)), (3, .ref (E.2.2 64)), (2, .ref (E.2.2 57)), (1, .ref (E.2.2 0)), (0, .ref b)] dL_law_233 (by decide) rfl ?_
  refine g_aload_n S 3 dL_law_235 rfl ?_
  refine g_aload_n S 5 dL_law_236 rfl ?_
  refine g_iload S 1 dL_law_237 rfl ?_
  refine g_const S dL_law_239 (v := 1) rfl ?_
  refine g_iadd S dL_law_240 ?_
  refine g_sld C S (q := j + 1) (nI_add j 1) (by omega) dL_law_241 ?_
  refine g_aload_n S 5 dL_law_242 rfl ?_
  refine g_iload S 1 dL_law_243 rfl ?_
  refine g_const S dL_law_245 (v := 2) rfl ?_
  refine g_iadd S dL_law_246 ?_
  refine g_sld C S (q := j + 2) (nI_add j 2) (by omega) dL_law_247 ?_
  refine g_calli (g_runV S hC (As := [.int (xs (j + 1)), .int (xs (j + 2))]) (rest := []) (k := 57) (by decide) rfl (by decide) rfl (kX8_drum l E (sL_drum_s σ (xs (j + 1)) (xs (j + 2))) (xs (j + 1)) (xs (j + 2)) hmk) (cwV 2 S.2.2.2.2 gL_law_X8_drum rfl rfl rfl (by decide +kernel) ⟨Nat.le_of_ble_eq_true rfl, Nat.le_of_ble_eq_true rfl⟩) rfl rfl (Nat.le_of_ble_eq_true rfl) dL_law_248 ⟨by show _ ≤ 672043; omega, by show _ ≤ 7079974; omega⟩) ?_
  refine g_istore S [(6, .int (sX8_drum_r (sL_drum_s σ (xs (j + 1)) (xs (j + 2))) (xs (j + 1)) (xs (j + 2)))), (5, .int (sL_drum_r σ (xs (j + 1)) (xs (j + 2)))), (4, .int (nI j)), (3, .ref (E.2.2 64)), (2, .ref (E.2.2 57)), (1, .ref (E.2.2 0)), (0, .ref b)] dL_law_251 (by decide) rfl ?_
  refine g_aload_n S 4 dL_law_253 rfl ?_
  refine g_calli (g_runV S hC (As := []) (rest := []) (k := 57) (by decide) rfl (by decide) rfl (kX8_thrown l E (sX8_drum_s (sL_drum_s σ (xs (j + 1)) (xs (j + 2))) (xs (j + 1)) (xs (j + 2)))) (cwV 0 S.2.2.2.2 gL_law_X8_thrown rfl rfl rfl (by decide +kernel) ⟨Nat.le_of_ble_eq_true rfl, Nat.le_of_ble_eq_true rfl⟩) rfl rfl (Nat.le_of_ble_eq_true rfl) dL_law_254 ⟨by show _ ≤ 672043; omega, by show _ ≤ 7079974; omega⟩) ?_
  refine g_iload S 1 dL_law_257 rfl ?_
  refine g_icmp_eq S 264 dL_law_259 (by decide) (fun c1 => ?_) (fun c1 => absurd h1 c1)
  refine g_iload S 1 dL_law_264 rfl ?_
  refine g_if_ne S 281 dL_law_266 (by decide) (fun c2 => ?_) (fun c2 => ?_)
  · skip
    refine g_goto S 1622 dL_law_281 (by decide) ?_
    refine g_lvs [2, 3, 4, 5, 6] (lv' := [(4, .int (nI j)), (3, .ref (E.2.2 64)), (2, .ref (E.2.2 57)), (1, .ref (E.2.2 0)), (0, .ref b)]) rfl ?_
    exact kk
  · have h3 := h2 c2
    refine g_aload_n S 3 dL_law_269 rfl ?_
    refine g_const S dL_law_270 (v := 0) rfl ?_
    refine g_lald S hC rfl dL_law_271 ?_
    refine g_iload S 0 dL_law_272 rfl ?_
    refine g_i2l S dL_law_274 ?_
    refine g_lcmp S dL_law_275 ?_
    refine g_if_eq S 281 dL_law_276 (by decide) (fun c3 => ?_) (fun c3 => absurd (by rw [h3]; exact lg_cmp_self _) c3)
    refine g_goto S 1622 dL_law_281 (by decide) ?_
    refine g_lvs [2, 3, 4, 5, 6] (lv' := [(4, .int (nI j)), (3, .ref (E.2.2 64)), (2, .ref (E.2.2 57)), (1, .ref (E.2.2 0)), (0, .ref b)]) rfl ?_
    exact kk
set_option maxRecDepth 100000 in
set_option maxHeartbeats 4000000 in
theorem law_smuggler (C : gLC p l s m meth c b L xs E) (hj : j + 3 < L) (hc : cells + 3 ≤ 672043) (hs : slots + 18 ≤ 7079974) (hok : tOK σ 1) (hmk : mOK (sL_smuggler_s σ (xs (j + 1)) (xs (j + 2)))) (h1 : (sX8_smuggler_s (sL_smuggler_s σ (xs (j + 1)) (xs (j + 2))) (xs (j + 1)) (xs (j + 2))).1 57 0 = (sL_smuggler_r σ (xs (j + 1)) (xs (j + 2)))) (h2 : (sL_smuggler_r σ (xs (j + 1)) (xs (j + 2))) = 0 → (sX8_smuggler_s (sL_smuggler_s σ (xs (j + 1)) (xs (j + 2))) (xs (j + 1)) (xs (j + 2))).2 0 = (Int32.toInt64 (sX8_smuggler_r (sL_smuggler_s σ (xs (j + 1)) (xs (j + 2))) (xs (j + 1)) (xs (j + 2)))))
    (kk : gLJ p l e s m below meth c b d0 E (sX8_smuggler_s (sL_smuggler_s σ (xs (j + 1)) (xs (j + 2))) (xs (j + 1)) (xs (j + 2))) (cells + 3) (slots + 18) 1622 (lvL E b j) []) : gLJ p l e s m below meth c b d0 E σ cells slots 284 (lvL E b j) [] := by
  have S := gS_dr C.1 d0
  have hC := C.2.2.2.1.dr d0
  have hfl := C.2.2.2.2.2.2.2.1
  unfold gLJ at kk ⊢
  unfold lvL at kk ⊢
  refine g_aload_n S 3 dL_law_284 rfl ?_
  refine g_aload_n S 4 dL_law_285 rfl ?_
  refine g_iload S 0 dL_law_286 rfl ?_
  refine g_const S dL_law_288 (v := 1) rfl ?_
  refine g_iadd S dL_law_289 ?_
  refine g_sld C S (q := j + 1) (nI_add j 1) (by omega) dL_law_290 ?_
  refine g_aload_n S 4 dL_law_291 rfl ?_
  refine g_iload S 0 dL_law_292 rfl ?_
  refine g_const S dL_law_294 (v := 2) rfl ?_
  refine g_iadd S dL_law_295 ?_
  refine g_sld C S (q := j + 2) (nI_add j 2) (by omega) dL_law_296 ?_
  refine g_aload_n S 1 dL_law_297 rfl ?_
  refine g_calli (g_runSW S hC (As := [.ref (E.2.2 0), .int (xs (j + 1)), .int (xs (j + 2)), .ref (E.2.2 64)]) (rest := []) (kL_smuggler l hfl E σ (xs (j + 1)) (xs (j + 2)) hok) (vx_cwSW 4 S.2.2.2.2 gL_law_L_smuggler rfl rfl rfl (by decide +kernel) ⟨Nat.le_of_ble_eq_true rfl, Nat.le_of_ble_eq_true rfl⟩) rfl rfl (Nat.le_of_ble_eq_true rfl) dL_law_298 ⟨hc, hs⟩) ?_
  refine g_istore S [(5, .int (sL_smuggler_r σ (xs (j + 1)) (xs (j + 2)))), (4, .int (nI j)), (3, .ref (E.2.2 64)), (2, .ref (E.2.2 57)), (1, .ref (E.2.2 0)), (0, .ref b)] dL_law_301 (by decide) rfl ?_
  refine g_aload_n S 3 dL_law_303 rfl ?_
  refine g_aload_n S 5 dL_law_304 rfl ?_
  refine g_iload S 1 dL_law_305 rfl ?_
  refine g_const S dL_law_307 (v := 1) rfl ?_
  refine g_iadd S dL_law_308 ?_
  refine g_sld C S (q := j + 1) (nI_add j 1) (by omega) dL_law_309 ?_
  refine g_aload_n S 5 dL_law_310 rfl ?_
  refine g_iload S 1 dL_law_311 rfl ?_
  refine g_const S dL_law_313 (v := 2) rfl ?_
  refine g_iadd S dL_law_314 ?_
  refine g_sld C S (q := j + 2) (nI_add j 2) (by omega) dL_law_315 ?_
  refine g_calli (g_runV S hC (As := [.int (xs (j + 1)), .int (xs (j + 2))]) (rest := []) (k := 57) (by decide) rfl (by decide) rfl (kX8_smuggler l E (sL_smuggler_s σ (xs (j + 1)) (xs (j + 2))) (xs (j + 1)) (xs (j + 2)) hmk) (cwV 2 S.2.2.2.2 gL_law_X8_smuggler rfl rfl rfl (by decide +kernel) ⟨Nat.le_of_ble_eq_true rfl, Nat.le_of_ble_eq_true rfl⟩) rfl rfl (Nat.le_of_ble_eq_true rfl) dL_law_316 ⟨by show _ ≤ 672043; omega, by show _ ≤ 7079974; omega⟩) ?_
  refine g_istore S [(6, .int (sX8_smuggler_r (sL_smuggler_s σ (xs (j + 1)) (xs (j + 2))) (xs (j + 1)) (xs (j + 2)))), (5, .int (sL_smuggler_r σ (xs (j + 1)) (xs (j + 2)))), (4, .int (nI j)), (3, .ref (E.2.2 64)), (2, .ref (E.2.2 57)), (1, .ref (E.2.2 0)), (0, .ref b)] dL_law_319 (by decide) rfl ?_
  refine g_aload_n S 4 dL_law_321 rfl ?_
  refine g_calli (g_runV S hC (As := []) (rest := []) (k := 57) (by decide) rfl (by decide) rfl (kX8_thrown l E (sX8_smuggler_s (sL_smuggler_s σ (xs (j + 1)) (xs (j + 2))) (xs (j + 1)) (xs (j + 2)))) (cwV 0 S.2.2.2.2 gL_law_X8_thrown rfl rfl rfl (by decide +kernel) ⟨Nat.le_of_ble_eq_true rfl, Nat.le_of_ble_eq_true rfl⟩) rfl rfl (Nat.le_of_ble_eq_true rfl) dL_law_322 ⟨by show _ ≤ 672043; omega, by show _ ≤ 7079974; omega⟩) ?_
  refine g_iload S 1 dL_law_325 rfl ?_
  refine g_icmp_eq S 332 dL_law_327 (by decide) (fun c1 => ?_) (fun c1 => absurd h1 c1)
  refine g_iload S 1 dL_law_332 rfl ?_
  refine g_if_ne S 349 dL_law_334 (by decide) (fun c2 => ?_) (fun c2 => ?_)
  · skip
    refine g_goto S 1622 dL_law_349 (by decide) ?_
    refine g_lvs [2, 3, 4, 5, 6] (lv' := [(4, .int (nI j)), (3, .ref (E.2.2 64)), (2, .ref (E.2.2 57)), (1, .ref (E.2.2 0)), (0, .ref b)]) rfl ?_
    exact kk
  · have h3 := h2 c2
    refine g_aload_n S 3 dL_law_337 rfl ?_
    refine g_const S dL_law_338 (v := 0) rfl ?_
    refine g_lald S hC rfl dL_law_339 ?_
    refine g_iload S 0 dL_law_340 rfl ?_
    refine g_i2l S dL_law_342 ?_
    refine g_lcmp S dL_law_343 ?_
    refine g_if_eq S 349 dL_law_344 (by decide) (fun c3 => ?_) (fun c3 => absurd (by rw [h3]; exact lg_cmp_self _) c3)
    refine g_goto S 1622 dL_law_349 (by decide) ?_
    refine g_lvs [2, 3, 4, 5, 6] (lv' := [(4, .int (nI j)), (3, .ref (E.2.2 64)), (2, .ref (E.2.2 57)), (1, .ref (E.2.2 0)), (0, .ref b)]) rfl ?_
    exact kk
set_option maxRecDepth 100000 in
set_option maxHeartbeats 4000000 in
theorem law_card (C : gLC p l s m meth c b L xs E) (hj : j + 3 < L) (hc : cells + 3 ≤ 672043) (hs : slots + 18 ≤ 7079974) (hok : tOK σ 1) (hmk : mOK (sL_card_s σ (xs (j + 1)) (xs (j + 2)))) (h1 : (sX8_card_s (sL_card_s σ (xs (j + 1)) (xs (j + 2))) (xs (j + 1)) (xs (j + 2))).1 57 0 = (sL_card_r σ (xs (j + 1)) (xs (j + 2)))) (h2 : (sL_card_r σ (xs (j + 1)) (xs (j + 2))) = 0 → (sX8_card_s (sL_card_s σ (xs (j + 1)) (xs (j + 2))) (xs (j + 1)) (xs (j + 2))).2 0 = (Int32.toInt64 (sX8_card_r (sL_card_s σ (xs (j + 1)) (xs (j + 2))) (xs (j + 1)) (xs (j + 2)))))
    (kk : gLJ p l e s m below meth c b d0 E (sX8_card_s (sL_card_s σ (xs (j + 1)) (xs (j + 2))) (xs (j + 1)) (xs (j + 2))) (cells + 3) (slots + 18) 1622 (lvL E b j) []) : gLJ p l e s m below meth c b d0 E σ cells slots 352 (lvL E b j) [] := by
  have S := gS_dr C.1 d0
  have hC := C.2.2.2.1.dr d0
  have hfl := C.2.2.2.2.2.2.2.1
  unfold gLJ at kk ⊢
  unfold lvL at kk ⊢
  refine g_aload_n S 3 dL_law_352 rfl ?_
  refine g_aload_n S 4 dL_law_353 rfl ?_
  refine g_iload S 0 dL_law_354 rfl ?_
  refine g_const S dL_law_356 (v := 1) rfl ?_
  refine g_iadd S dL_law_357 ?_
  refine g_sld C S (q := j + 1) (nI_add j 1) (by omega) dL_law_358 ?_
  refine g_aload_n S 4 dL_law_359 rfl ?_
  refine g_iload S 0 dL_law_360 rfl ?_
  refine g_const S dL_law_362 (v := 2) rfl ?_
  refine g_iadd S dL_law_363 ?_
  refine g_sld C S (q := j + 2) (nI_add j 2) (by omega) dL_law_364 ?_
  refine g_aload_n S 1 dL_law_365 rfl ?_
  refine g_calli (g_runSW S hC (As := [.ref (E.2.2 0), .int (xs (j + 1)), .int (xs (j + 2)), .ref (E.2.2 64)]) (rest := []) (kL_card l hfl E σ (xs (j + 1)) (xs (j + 2)) hok) (vx_cwSW 4 S.2.2.2.2 gL_law_L_card rfl rfl rfl (by decide +kernel) ⟨Nat.le_of_ble_eq_true rfl, Nat.le_of_ble_eq_true rfl⟩) rfl rfl (Nat.le_of_ble_eq_true rfl) dL_law_366 ⟨hc, hs⟩) ?_
  refine g_istore S [(5, .int (sL_card_r σ (xs (j + 1)) (xs (j + 2)))), (4, .int (nI j)), (3, .ref (E.2.2 64)), (2, .ref (E.2.2 57)), (1, .ref (E.2.2 0)), (0, .ref b)] dL_law_369 (by decide) rfl ?_
  refine g_aload_n S 3 dL_law_371 rfl ?_
  refine g_aload_n S 5 dL_law_372 rfl ?_
  refine g_iload S 1 dL_law_373 rfl ?_
  refine g_const S dL_law_375 (v := 1) rfl ?_
  refine g_iadd S dL_law_376 ?_
  refine g_sld C S (q := j + 1) (nI_add j 1) (by omega) dL_law_377 ?_
  refine g_aload_n S 5 dL_law_378 rfl ?_
  refine g_iload S 1 dL_law_379 rfl ?_
  refine g_const S dL_law_381 (v := 2) rfl ?_
  refine g_iadd S dL_law_382 ?_
  refine g_sld C S (q := j + 2) (nI_add j 2) (by omega) dL_law_383 ?_
  refine g_calli (g_runV S hC (As := [.int (xs (j + 1)), .int (xs (j + 2))]) (rest := []) (k := 57) (by decide) rfl (by decide) rfl (kX8_card l E (sL_card_s σ (xs (j + 1)) (xs (j + 2))) (xs (j + 1)) (xs (j + 2)) hmk) (cwV 2 S.2.2.2.2 gL_law_X8_card rfl rfl rfl (by decide +kernel) ⟨Nat.le_of_ble_eq_true rfl, Nat.le_of_ble_eq_true rfl⟩) rfl rfl (Nat.le_of_ble_eq_true rfl) dL_law_384 ⟨by show _ ≤ 672043; omega, by show _ ≤ 7079974; omega⟩) ?_
  refine g_istore S [(6, .int (sX8_card_r (sL_card_s σ (xs (j + 1)) (xs (j + 2))) (xs (j + 1)) (xs (j + 2)))), (5, .int (sL_card_r σ (xs (j + 1)) (xs (j + 2)))), (4, .int (nI j)), (3, .ref (E.2.2 64)), (2, .ref (E.2.2 57)), (1, .ref (E.2.2 0)), (0, .ref b)] dL_law_387 (by decide) rfl ?_
  refine g_aload_n S 4 dL_law_389 rfl ?_
  refine g_calli (g_runV S hC (As := []) (rest := []) (k := 57) (by decide) rfl (by decide) rfl (kX8_thrown l E (sX8_card_s (sL_card_s σ (xs (j + 1)) (xs (j + 2))) (xs (j + 1)) (xs (j + 2)))) (cwV 0 S.2.2.2.2 gL_law_X8_thrown rfl rfl rfl (by decide +kernel) ⟨Nat.le_of_ble_eq_true rfl, Nat.le_of_ble_eq_true rfl⟩) rfl rfl (Nat.le_of_ble_eq_true rfl) dL_law_390 ⟨by show _ ≤ 672043; omega, by show _ ≤ 7079974; omega⟩) ?_
  refine g_iload S 1 dL_law_393 rfl ?_
  refine g_icmp_eq S 400 dL_law_395 (by decide) (fun c1 => ?_) (fun c1 => absurd h1 c1)
  refine g_iload S 1 dL_law_400 rfl ?_
  refine g_if_ne S 417 dL_law_402 (by decide) (fun c2 => ?_) (fun c2 => ?_)
  · skip
    refine g_goto S 1622 dL_law_417 (by decide) ?_
    refine g_lvs [2, 3, 4, 5, 6] (lv' := [(4, .int (nI j)), (3, .ref (E.2.2 64)), (2, .ref (E.2.2 57)), (1, .ref (E.2.2 0)), (0, .ref b)]) rfl ?_
    exact kk
  · have h3 := h2 c2
    refine g_aload_n S 3 dL_law_405 rfl ?_
    refine g_const S dL_law_406 (v := 0) rfl ?_
    refine g_lald S hC rfl dL_law_407 ?_
    refine g_iload S 0 dL_law_408 rfl ?_
    refine g_i2l S dL_law_410 ?_
    refine g_lcmp S dL_law_411 ?_
    refine g_if_eq S 417 dL_law_412 (by decide) (fun c3 => ?_) (fun c3 => absurd (by rw [h3]; exact lg_cmp_self _) c3)
    refine g_goto S 1622 dL_law_417 (by decide) ?_
    refine g_lvs [2, 3, 4, 5, 6] (lv' := [(4, .int (nI j)), (3, .ref (E.2.2 64)), (2, .ref (E.2.2 57)), (1, .ref (E.2.2 0)), (0, .ref b)]) rfl ?_
    exact kk
set_option maxRecDepth 100000 in
set_option maxHeartbeats 4000000 in
theorem law_setPatrol (C : gLC p l s m meth c b L xs E) (hj : j + 3 < L) (hc : cells + 1 ≤ 672043) (hs : slots + 6 ≤ 7079974) (h1 : (sX8_setPatrol_s (sL_setPatrol_s σ (xs (j + 1))) (xs (j + 1))).1 57 0 = (sL_setPatrol_r σ (xs (j + 1)))) (h2 : (sL_setPatrol_r σ (xs (j + 1))) = 0 → (sX8_setPatrol_s (sL_setPatrol_s σ (xs (j + 1))) (xs (j + 1))).2 0 = (Int32.toInt64 (sX8_setPatrol_r (sL_setPatrol_s σ (xs (j + 1))) (xs (j + 1)))))
    (kk : gLJ p l e s m below meth c b d0 E (sX8_setPatrol_s (sL_setPatrol_s σ (xs (j + 1))) (xs (j + 1))) (cells + 1) (slots + 6) 1622 (lvL E b j) []) : gLJ p l e s m below meth c b d0 E σ cells slots 420 (lvL E b j) [] := by
  have S := gS_dr C.1 d0
  have hC := C.2.2.2.1.dr d0
  have hfl := C.2.2.2.2.2.2.2.1
  unfold gLJ at kk ⊢
  unfold lvL at kk ⊢
  refine g_aload_n S 3 dL_law_420 rfl ?_
  refine g_aload_n S 4 dL_law_421 rfl ?_
  refine g_iload S 0 dL_law_422 rfl ?_
  refine g_const S dL_law_424 (v := 1) rfl ?_
  refine g_iadd S dL_law_425 ?_
  refine g_sld C S (q := j + 1) (nI_add j 1) (by omega) dL_law_426 ?_
  refine g_aload_n S 1 dL_law_427 rfl ?_
  refine g_calli (g_runSW S hC (As := [.ref (E.2.2 0), .int (xs (j + 1)), .ref (E.2.2 64)]) (rest := []) (kL_setPatrol l hfl E σ (xs (j + 1))) (vx_cwSW 3 S.2.2.2.2 gL_law_L_setPatrol rfl rfl rfl (by decide +kernel) ⟨Nat.le_of_ble_eq_true rfl, Nat.le_of_ble_eq_true rfl⟩) rfl rfl (Nat.le_of_ble_eq_true rfl) dL_law_428 ⟨hc, hs⟩) ?_
  refine g_istore S [(5, .int (sL_setPatrol_r σ (xs (j + 1)))), (4, .int (nI j)), (3, .ref (E.2.2 64)), (2, .ref (E.2.2 57)), (1, .ref (E.2.2 0)), (0, .ref b)] dL_law_431 (by decide) rfl ?_
  refine g_aload_n S 3 dL_law_433 rfl ?_
  refine g_aload_n S 5 dL_law_434 rfl ?_
  refine g_iload S 1 dL_law_435 rfl ?_
  refine g_const S dL_law_437 (v := 1) rfl ?_
  refine g_iadd S dL_law_438 ?_
  refine g_sld C S (q := j + 1) (nI_add j 1) (by omega) dL_law_439 ?_
  refine g_calli (g_runV S hC (As := [.int (xs (j + 1))]) (rest := []) (k := 57) (by decide) rfl (by decide) rfl (kX8_setPatrol l E (sL_setPatrol_s σ (xs (j + 1))) (xs (j + 1))) (cwV 1 S.2.2.2.2 gL_law_X8_setPatrol rfl rfl rfl (by decide +kernel) ⟨Nat.le_of_ble_eq_true rfl, Nat.le_of_ble_eq_true rfl⟩) rfl rfl (Nat.le_of_ble_eq_true rfl) dL_law_440 ⟨by show _ ≤ 672043; omega, by show _ ≤ 7079974; omega⟩) ?_
  refine g_istore S [(6, .int (sX8_setPatrol_r (sL_setPatrol_s σ (xs (j + 1))) (xs (j + 1)))), (5, .int (sL_setPatrol_r σ (xs (j + 1)))), (4, .int (nI j)), (3, .ref (E.2.2 64)), (2, .ref (E.2.2 57)), (1, .ref (E.2.2 0)), (0, .ref b)] dL_law_443 (by decide) rfl ?_
  refine g_aload_n S 4 dL_law_445 rfl ?_
  refine g_calli (g_runV S hC (As := []) (rest := []) (k := 57) (by decide) rfl (by decide) rfl (kX8_thrown l E (sX8_setPatrol_s (sL_setPatrol_s σ (xs (j + 1))) (xs (j + 1)))) (cwV 0 S.2.2.2.2 gL_law_X8_thrown rfl rfl rfl (by decide +kernel) ⟨Nat.le_of_ble_eq_true rfl, Nat.le_of_ble_eq_true rfl⟩) rfl rfl (Nat.le_of_ble_eq_true rfl) dL_law_446 ⟨by show _ ≤ 672043; omega, by show _ ≤ 7079974; omega⟩) ?_
  refine g_iload S 1 dL_law_449 rfl ?_
  refine g_icmp_eq S 456 dL_law_451 (by decide) (fun c1 => ?_) (fun c1 => absurd h1 c1)
  refine g_iload S 1 dL_law_456 rfl ?_
  refine g_if_ne S 473 dL_law_458 (by decide) (fun c2 => ?_) (fun c2 => ?_)
  · skip
    refine g_goto S 1622 dL_law_473 (by decide) ?_
    refine g_lvs [2, 3, 4, 5, 6] (lv' := [(4, .int (nI j)), (3, .ref (E.2.2 64)), (2, .ref (E.2.2 57)), (1, .ref (E.2.2 0)), (0, .ref b)]) rfl ?_
    exact kk
  · have h3 := h2 c2
    refine g_aload_n S 3 dL_law_461 rfl ?_
    refine g_const S dL_law_462 (v := 0) rfl ?_
    refine g_lald S hC rfl dL_law_463 ?_
    refine g_iload S 0 dL_law_464 rfl ?_
    refine g_i2l S dL_law_466 ?_
    refine g_lcmp S dL_law_467 ?_
    refine g_if_eq S 473 dL_law_468 (by decide) (fun c3 => ?_) (fun c3 => absurd (by rw [h3]; exact lg_cmp_self _) c3)
    refine g_goto S 1622 dL_law_473 (by decide) ?_
    refine g_lvs [2, 3, 4, 5, 6] (lv' := [(4, .int (nI j)), (3, .ref (E.2.2 64)), (2, .ref (E.2.2 57)), (1, .ref (E.2.2 0)), (0, .ref b)]) rfl ?_
    exact kk
set_option maxRecDepth 100000 in
set_option maxHeartbeats 4000000 in
theorem law_setShare (C : gLC p l s m meth c b L xs E) (hj : j + 3 < L) (hc : cells + 1 ≤ 672043) (hs : slots + 6 ≤ 7079974) (h1 : (sX8_setShare_s (sL_setShare_s σ (xs (j + 1))) (xs (j + 1))).1 57 0 = (sL_setShare_r σ (xs (j + 1)))) (h2 : (sL_setShare_r σ (xs (j + 1))) = 0 → (sX8_setShare_s (sL_setShare_s σ (xs (j + 1))) (xs (j + 1))).2 0 = (Int32.toInt64 (sX8_setShare_r (sL_setShare_s σ (xs (j + 1))) (xs (j + 1)))))
    (kk : gLJ p l e s m below meth c b d0 E (sX8_setShare_s (sL_setShare_s σ (xs (j + 1))) (xs (j + 1))) (cells + 1) (slots + 6) 1622 (lvL E b j) []) : gLJ p l e s m below meth c b d0 E σ cells slots 476 (lvL E b j) [] := by
  have S := gS_dr C.1 d0
  have hC := C.2.2.2.1.dr d0
  have hfl := C.2.2.2.2.2.2.2.1
  unfold gLJ at kk ⊢
  unfold lvL at kk ⊢
  refine g_aload_n S 3 dL_law_476 rfl ?_
  refine g_aload_n S 4 dL_law_477 rfl ?_
  refine g_iload S 0 dL_law_478 rfl ?_
  refine g_const S dL_law_480 (v := 1) rfl ?_
  refine g_iadd S dL_law_481 ?_
  refine g_sld C S (q := j + 1) (nI_add j 1) (by omega) dL_law_482 ?_
  refine g_aload_n S 1 dL_law_483 rfl ?_
  refine g_calli (g_runSW S hC (As := [.ref (E.2.2 0), .int (xs (j + 1)), .ref (E.2.2 64)]) (rest := []) (kL_setShare l hfl E σ (xs (j + 1))) (vx_cwSW 3 S.2.2.2.2 gL_law_L_setShare rfl rfl rfl (by decide +kernel) ⟨Nat.le_of_ble_eq_true rfl, Nat.le_of_ble_eq_true rfl⟩) rfl rfl (Nat.le_of_ble_eq_true rfl) dL_law_484 ⟨hc, hs⟩) ?_
  refine g_istore S [(5, .int (sL_setShare_r σ (xs (j + 1)))), (4, .int (nI j)), (3, .ref (E.2.2 64)), (2, .ref (E.2.2 57)), (1, .ref (E.2.2 0)), (0, .ref b)] dL_law_487 (by decide) rfl ?_
  refine g_aload_n S 3 dL_law_489 rfl ?_
  refine g_aload_n S 5 dL_law_490 rfl ?_
  refine g_iload S 1 dL_law_491 rfl ?_
  refine g_const S dL_law_493 (v := 1) rfl ?_
  refine g_iadd S dL_law_494 ?_
  refine g_sld C S (q := j + 1) (nI_add j 1) (by omega) dL_law_495 ?_
  refine g_calli (g_runV S hC (As := [.int (xs (j + 1))]) (rest := []) (k := 57) (by decide) rfl (by decide) rfl (kX8_setShare l E (sL_setShare_s σ (xs (j + 1))) (xs (j + 1))) (cwV 1 S.2.2.2.2 gL_law_X8_setShare rfl rfl rfl (by decide +kernel) ⟨Nat.le_of_ble_eq_true rfl, Nat.le_of_ble_eq_true rfl⟩) rfl rfl (Nat.le_of_ble_eq_true rfl) dL_law_496 ⟨by show _ ≤ 672043; omega, by show _ ≤ 7079974; omega⟩) ?_
  refine g_istore S [(6, .int (sX8_setShare_r (sL_setShare_s σ (xs (j + 1))) (xs (j + 1)))), (5, .int (sL_setShare_r σ (xs (j + 1)))), (4, .int (nI j)), (3, .ref (E.2.2 64)), (2, .ref (E.2.2 57)), (1, .ref (E.2.2 0)), (0, .ref b)] dL_law_499 (by decide) rfl ?_
  refine g_aload_n S 4 dL_law_501 rfl ?_
  refine g_calli (g_runV S hC (As := []) (rest := []) (k := 57) (by decide) rfl (by decide) rfl (kX8_thrown l E (sX8_setShare_s (sL_setShare_s σ (xs (j + 1))) (xs (j + 1)))) (cwV 0 S.2.2.2.2 gL_law_X8_thrown rfl rfl rfl (by decide +kernel) ⟨Nat.le_of_ble_eq_true rfl, Nat.le_of_ble_eq_true rfl⟩) rfl rfl (Nat.le_of_ble_eq_true rfl) dL_law_502 ⟨by show _ ≤ 672043; omega, by show _ ≤ 7079974; omega⟩) ?_
  refine g_iload S 1 dL_law_505 rfl ?_
  refine g_icmp_eq S 512 dL_law_507 (by decide) (fun c1 => ?_) (fun c1 => absurd h1 c1)
  refine g_iload S 1 dL_law_512 rfl ?_
  refine g_if_ne S 529 dL_law_514 (by decide) (fun c2 => ?_) (fun c2 => ?_)
  · skip
    refine g_goto S 1622 dL_law_529 (by decide) ?_
    refine g_lvs [2, 3, 4, 5, 6] (lv' := [(4, .int (nI j)), (3, .ref (E.2.2 64)), (2, .ref (E.2.2 57)), (1, .ref (E.2.2 0)), (0, .ref b)]) rfl ?_
    exact kk
  · have h3 := h2 c2
    refine g_aload_n S 3 dL_law_517 rfl ?_
    refine g_const S dL_law_518 (v := 0) rfl ?_
    refine g_lald S hC rfl dL_law_519 ?_
    refine g_iload S 0 dL_law_520 rfl ?_
    refine g_i2l S dL_law_522 ?_
    refine g_lcmp S dL_law_523 ?_
    refine g_if_eq S 529 dL_law_524 (by decide) (fun c3 => ?_) (fun c3 => absurd (by rw [h3]; exact lg_cmp_self _) c3)
    refine g_goto S 1622 dL_law_529 (by decide) ?_
    refine g_lvs [2, 3, 4, 5, 6] (lv' := [(4, .int (nI j)), (3, .ref (E.2.2 64)), (2, .ref (E.2.2 57)), (1, .ref (E.2.2 0)), (0, .ref b)]) rfl ?_
    exact kk
set_option maxRecDepth 100000 in
set_option maxHeartbeats 4000000 in
theorem law_setHeat (C : gLC p l s m meth c b L xs E) (hj : j + 3 < L) (hc : cells + 2 ≤ 672043) (hs : slots + 12 ≤ 7079974) (hok : tOK σ 1) (hmk : mOK (sL_setHeat_s σ (xs (j + 1)) (xs (j + 2)))) (h1 : (sX8_setHeat_s (sL_setHeat_s σ (xs (j + 1)) (xs (j + 2))) (xs (j + 1)) (xs (j + 2))).1 57 0 = (sL_setHeat_r σ (xs (j + 1)) (xs (j + 2)))) (h2 : (sL_setHeat_r σ (xs (j + 1)) (xs (j + 2))) = 0 → (sX8_setHeat_s (sL_setHeat_s σ (xs (j + 1)) (xs (j + 2))) (xs (j + 1)) (xs (j + 2))).2 0 = (Int32.toInt64 (sX8_setHeat_r (sL_setHeat_s σ (xs (j + 1)) (xs (j + 2))) (xs (j + 1)) (xs (j + 2)))))
    (kk : gLJ p l e s m below meth c b d0 E (sX8_setHeat_s (sL_setHeat_s σ (xs (j + 1)) (xs (j + 2))) (xs (j + 1)) (xs (j + 2))) (cells + 2) (slots + 12) 1622 (lvL E b j) []) : gLJ p l e s m below meth c b d0 E σ cells slots 532 (lvL E b j) [] := by
  have S := gS_dr C.1 d0
  have hC := C.2.2.2.1.dr d0
  have hfl := C.2.2.2.2.2.2.2.1
  unfold gLJ at kk ⊢
  unfold lvL at kk ⊢
  refine g_aload_n S 3 dL_law_532 rfl ?_
  refine g_aload_n S 4 dL_law_533 rfl ?_
  refine g_iload S 0 dL_law_534 rfl ?_
  refine g_const S dL_law_536 (v := 1) rfl ?_
  refine g_iadd S dL_law_537 ?_
  refine g_sld C S (q := j + 1) (nI_add j 1) (by omega) dL_law_538 ?_
  refine g_aload_n S 4 dL_law_539 rfl ?_
  refine g_iload S 0 dL_law_540 rfl ?_
  refine g_const S dL_law_542 (v := 2) rfl ?_
  refine g_iadd S dL_law_543 ?_
  refine g_sld C S (q := j + 2) (nI_add j 2) (by omega) dL_law_544 ?_
  refine g_aload_n S 1 dL_law_545 rfl ?_
  refine g_calli (g_runSW S hC (As := [.ref (E.2.2 0), .int (xs (j + 1)), .int (xs (j + 2)), .ref (E.2.2 64)]) (rest := []) (kL_setHeat l hfl E σ (xs (j + 1)) (xs (j + 2)) hok) (vx_cwSW 4 S.2.2.2.2 gL_law_L_setHeat rfl rfl rfl (by decide +kernel) ⟨Nat.le_of_ble_eq_true rfl, Nat.le_of_ble_eq_true rfl⟩) rfl rfl (Nat.le_of_ble_eq_true rfl) dL_law_546 ⟨hc, hs⟩) ?_
  refine g_istore S [(5, .int (sL_setHeat_r σ (xs (j + 1)) (xs (j + 2)))), (4, .int (nI j)), (3, .ref (E.2.2 64)), (2, .ref (E.2.2 57)), (1, .ref (E.2.2 0)), (0, .ref b)] dL_law_549 (by decide) rfl ?_
  refine g_aload_n S 3 dL_law_551 rfl ?_
  refine g_aload_n S 5 dL_law_552 rfl ?_
  refine g_iload S 1 dL_law_553 rfl ?_
  refine g_const S dL_law_555 (v := 1) rfl ?_
  refine g_iadd S dL_law_556 ?_
  refine g_sld C S (q := j + 1) (nI_add j 1) (by omega) dL_law_557 ?_
  refine g_aload_n S 5 dL_law_558 rfl ?_
  refine g_iload S 1 dL_law_559 rfl ?_
  refine g_const S dL_law_561 (v := 2) rfl ?_
  refine g_iadd S dL_law_562 ?_
  refine g_sld C S (q := j + 2) (nI_add j 2) (by omega) dL_law_563 ?_
  refine g_calli (g_runV S hC (As := [.int (xs (j + 1)), .int (xs (j + 2))]) (rest := []) (k := 57) (by decide) rfl (by decide) rfl (kX8_setHeat l E (sL_setHeat_s σ (xs (j + 1)) (xs (j + 2))) (xs (j + 1)) (xs (j + 2)) hmk) (cwV 2 S.2.2.2.2 gL_law_X8_setHeat rfl rfl rfl (by decide +kernel) ⟨Nat.le_of_ble_eq_true rfl, Nat.le_of_ble_eq_true rfl⟩) rfl rfl (Nat.le_of_ble_eq_true rfl) dL_law_564 ⟨by show _ ≤ 672043; omega, by show _ ≤ 7079974; omega⟩) ?_
  refine g_istore S [(6, .int (sX8_setHeat_r (sL_setHeat_s σ (xs (j + 1)) (xs (j + 2))) (xs (j + 1)) (xs (j + 2)))), (5, .int (sL_setHeat_r σ (xs (j + 1)) (xs (j + 2)))), (4, .int (nI j)), (3, .ref (E.2.2 64)), (2, .ref (E.2.2 57)), (1, .ref (E.2.2 0)), (0, .ref b)] dL_law_567 (by decide) rfl ?_
  refine g_aload_n S 4 dL_law_569 rfl ?_
  refine g_calli (g_runV S hC (As := []) (rest := []) (k := 57) (by decide) rfl (by decide) rfl (kX8_thrown l E (sX8_setHeat_s (sL_setHeat_s σ (xs (j + 1)) (xs (j + 2))) (xs (j + 1)) (xs (j + 2)))) (cwV 0 S.2.2.2.2 gL_law_X8_thrown rfl rfl rfl (by decide +kernel) ⟨Nat.le_of_ble_eq_true rfl, Nat.le_of_ble_eq_true rfl⟩) rfl rfl (Nat.le_of_ble_eq_true rfl) dL_law_570 ⟨by show _ ≤ 672043; omega, by show _ ≤ 7079974; omega⟩) ?_
  refine g_iload S 1 dL_law_573 rfl ?_
  refine g_icmp_eq S 580 dL_law_575 (by decide) (fun c1 => ?_) (fun c1 => absurd h1 c1)
  refine g_iload S 1 dL_law_580 rfl ?_
  refine g_if_ne S 597 dL_law_582 (by decide) (fun c2 => ?_) (fun c2 => ?_)
  · skip
    refine g_goto S 1622 dL_law_597 (by decide) ?_
    refine g_lvs [2, 3, 4, 5, 6] (lv' := [(4, .int (nI j)), (3, .ref (E.2.2 64)), (2, .ref (E.2.2 57)), (1, .ref (E.2.2 0)), (0, .ref b)]) rfl ?_
    exact kk
  · have h3 := h2 c2
    refine g_aload_n S 3 dL_law_585 rfl ?_
    refine g_const S dL_law_586 (v := 0) rfl ?_
    refine g_lald S hC rfl dL_law_587 ?_
    refine g_iload S 0 dL_law_588 rfl ?_
    refine g_i2l S dL_law_590 ?_
    refine g_lcmp S dL_law_591 ?_
    refine g_if_eq S 597 dL_law_592 (by decide) (fun c3 => ?_) (fun c3 => absurd (by rw [h3]; exact lg_cmp_self _) c3)
    refine g_goto S 1622 dL_law_597 (by decide) ?_
    refine g_lvs [2, 3, 4, 5, 6] (lv' := [(4, .int (nI j)), (3, .ref (E.2.2 64)), (2, .ref (E.2.2 57)), (1, .ref (E.2.2 0)), (0, .ref b)]) rfl ?_
    exact kk
set_option maxRecDepth 100000 in
set_option maxHeartbeats 4000000 in
theorem law_dig (C : gLC p l s m meth c b L xs E) (hj : j + 3 < L) (hc : cells + 3 ≤ 672043) (hs : slots + 18 ≤ 7079974) (hok : tOK σ 1) (hmk : mOK (sL_dig_s σ (xs (j + 1)) (xs (j + 2)))) (h1 : (sX8_dig_s (sL_dig_s σ (xs (j + 1)) (xs (j + 2))) (xs (j + 1)) (xs (j + 2))).1 57 0 = (sL_dig_r σ (xs (j + 1)) (xs (j + 2)))) (h2 : (sL_dig_r σ (xs (j + 1)) (xs (j + 2))) = 0 → (sX8_dig_s (sL_dig_s σ (xs (j + 1)) (xs (j + 2))) (xs (j + 1)) (xs (j + 2))).2 0 = (Int32.toInt64 (sX8_dig_r (sL_dig_s σ (xs (j + 1)) (xs (j + 2))) (xs (j + 1)) (xs (j + 2)))))
    (kk : gLJ p l e s m below meth c b d0 E (sX8_dig_s (sL_dig_s σ (xs (j + 1)) (xs (j + 2))) (xs (j + 1)) (xs (j + 2))) (cells + 3) (slots + 18) 1622 (lvL E b j) []) : gLJ p l e s m below meth c b d0 E σ cells slots 600 (lvL E b j) [] := by
  have S := gS_dr C.1 d0
  have hC := C.2.2.2.1.dr d0
  have hfl := C.2.2.2.2.2.2.2.1
  unfold gLJ at kk ⊢
  unfold lvL at kk ⊢
  refine g_aload_n S 3 dL_law_600 rfl ?_
  refine g_aload_n S 4 dL_law_601 rfl ?_
  refine g_iload S 0 dL_law_602 rfl ?_
  refine g_const S dL_law_604 (v := 1) rfl ?_
  refine g_iadd S dL_law_605 ?_
  refine g_sld C S (q := j + 1) (nI_add j 1) (by omega) dL_law_606 ?_
  refine g_aload_n S 4 dL_law_607 rfl ?_
  refine g_iload S 0 dL_law_608 rfl ?_
  refine g_const S dL_law_610 (v := 2) rfl ?_
  refine g_iadd S dL_law_611 ?_
  refine g_sld C S (q := j + 2) (nI_add j 2) (by omega) dL_law_612 ?_
  refine g_aload_n S 1 dL_law_613 rfl ?_
  refine g_calli (g_runSW S hC (As := [.ref (E.2.2 0), .int (xs (j + 1)), .int (xs (j + 2)), .ref (E.2.2 64)]) (rest := []) (kL_dig l hfl E σ (xs (j + 1)) (xs (j + 2)) hok) (vx_cwSW 4 S.2.2.2.2 gL_law_L_dig rfl rfl rfl (by decide +kernel) ⟨Nat.le_of_ble_eq_true rfl, Nat.le_of_ble_eq_true rfl⟩) rfl rfl (Nat.le_of_ble_eq_true rfl) dL_law_614 ⟨hc, hs⟩) ?_
  refine g_istore S [(5, .int (sL_dig_r σ (xs (j + 1)) (xs (j + 2)))), (4, .int (nI j)), (3, .ref (E.2.2 64)), (2, .ref (E.2.2 57)), (1, .ref (E.2.2 0)), (0, .ref b)] dL_law_617 (by decide) rfl ?_
  refine g_aload_n S 3 dL_law_619 rfl ?_
  refine g_aload_n S 5 dL_law_620 rfl ?_
  refine g_iload S 1 dL_law_621 rfl ?_
  refine g_const S dL_law_623 (v := 1) rfl ?_
  refine g_iadd S dL_law_624 ?_
  refine g_sld C S (q := j + 1) (nI_add j 1) (by omega) dL_law_625 ?_
  refine g_aload_n S 5 dL_law_626 rfl ?_
  refine g_iload S 1 dL_law_627 rfl ?_
  refine g_const S dL_law_629 (v := 2) rfl ?_
  refine g_iadd S dL_law_630 ?_
  refine g_sld C S (q := j + 2) (nI_add j 2) (by omega) dL_law_631 ?_
  refine g_calli (g_runV S hC (As := [.int (xs (j + 1)), .int (xs (j + 2))]) (rest := []) (k := 57) (by decide) rfl (by decide) rfl (kX8_dig l E (sL_dig_s σ (xs (j + 1)) (xs (j + 2))) (xs (j + 1)) (xs (j + 2)) hmk) (cwV 2 S.2.2.2.2 gL_law_X8_dig rfl rfl rfl (by decide +kernel) ⟨Nat.le_of_ble_eq_true rfl, Nat.le_of_ble_eq_true rfl⟩) rfl rfl (Nat.le_of_ble_eq_true rfl) dL_law_632 ⟨by show _ ≤ 672043; omega, by show _ ≤ 7079974; omega⟩) ?_
  refine g_istore S [(6, .int (sX8_dig_r (sL_dig_s σ (xs (j + 1)) (xs (j + 2))) (xs (j + 1)) (xs (j + 2)))), (5, .int (sL_dig_r σ (xs (j + 1)) (xs (j + 2)))), (4, .int (nI j)), (3, .ref (E.2.2 64)), (2, .ref (E.2.2 57)), (1, .ref (E.2.2 0)), (0, .ref b)] dL_law_635 (by decide) rfl ?_
  refine g_aload_n S 4 dL_law_637 rfl ?_
  refine g_calli (g_runV S hC (As := []) (rest := []) (k := 57) (by decide) rfl (by decide) rfl (kX8_thrown l E (sX8_dig_s (sL_dig_s σ (xs (j + 1)) (xs (j + 2))) (xs (j + 1)) (xs (j + 2)))) (cwV 0 S.2.2.2.2 gL_law_X8_thrown rfl rfl rfl (by decide +kernel) ⟨Nat.le_of_ble_eq_true rfl, Nat.le_of_ble_eq_true rfl⟩) rfl rfl (Nat.le_of_ble_eq_true rfl) dL_law_638 ⟨by show _ ≤ 672043; omega, by show _ ≤ 7079974; omega⟩) ?_
  refine g_iload S 1 dL_law_641 rfl ?_
  refine g_icmp_eq S 648 dL_law_643 (by decide) (fun c1 => ?_) (fun c1 => absurd h1 c1)
  refine g_iload S 1 dL_law_648 rfl ?_
  refine g_if_ne S 665 dL_law_650 (by decide) (fun c2 => ?_) (fun c2 => ?_)
  · skip
    refine g_goto S 1622 dL_law_665 (by decide) ?_
    refine g_lvs [2, 3, 4, 5, 6] (lv' := [(4, .int (nI j)), (3, .ref (E.2.2 64)), (2, .ref (E.2.2 57)), (1, .ref (E.2.2 0)), (0, .ref b)]) rfl ?_
    exact kk
  · have h3 := h2 c2
    refine g_aload_n S 3 dL_law_653 rfl ?_
    refine g_const S dL_law_654 (v := 0) rfl ?_
    refine g_lald S hC rfl dL_law_655 ?_
    refine g_iload S 0 dL_law_656 rfl ?_
    refine g_i2l S dL_law_658 ?_
    refine g_lcmp S dL_law_659 ?_
    refine g_if_eq S 665 dL_law_660 (by decide) (fun c3 => ?_) (fun c3 => absurd (by rw [h3]; exact lg_cmp_self _) c3)
    refine g_goto S 1622 dL_law_665 (by decide) ?_
    refine g_lvs [2, 3, 4, 5, 6] (lv' := [(4, .int (nI j)), (3, .ref (E.2.2 64)), (2, .ref (E.2.2 57)), (1, .ref (E.2.2 0)), (0, .ref b)]) rfl ?_
    exact kk
set_option maxRecDepth 100000 in
set_option maxHeartbeats 4000000 in
theorem law_give (C : gLC p l s m meth c b L xs E) (hj : j + 3 < L) (hc : cells + 2 ≤ 672043) (hs : slots + 12 ≤ 7079974) (h1 : (sX8_give_s (sL_give_s σ (xs (j + 1)) (xs (j + 2))) (xs (j + 1)) (xs (j + 2))).1 57 0 = (sL_give_r σ (xs (j + 1)) (xs (j + 2)))) (h2 : (sL_give_r σ (xs (j + 1)) (xs (j + 2))) = 0 → (sX8_give_s (sL_give_s σ (xs (j + 1)) (xs (j + 2))) (xs (j + 1)) (xs (j + 2))).2 0 = (Int32.toInt64 (sX8_give_r (sL_give_s σ (xs (j + 1)) (xs (j + 2))) (xs (j + 1)) (xs (j + 2)))))
    (kk : gLJ p l e s m below meth c b d0 E (sX8_give_s (sL_give_s σ (xs (j + 1)) (xs (j + 2))) (xs (j + 1)) (xs (j + 2))) (cells + 2) (slots + 12) 1622 (lvL E b j) []) : gLJ p l e s m below meth c b d0 E σ cells slots 668 (lvL E b j) [] := by
  have S := gS_dr C.1 d0
  have hC := C.2.2.2.1.dr d0
  have hfl := C.2.2.2.2.2.2.2.1
  unfold gLJ at kk ⊢
  unfold lvL at kk ⊢
  refine g_aload_n S 3 dL_law_668 rfl ?_
  refine g_aload_n S 4 dL_law_669 rfl ?_
  refine g_iload S 0 dL_law_670 rfl ?_
  refine g_const S dL_law_672 (v := 1) rfl ?_
  refine g_iadd S dL_law_673 ?_
  refine g_sld C S (q := j + 1) (nI_add j 1) (by omega) dL_law_674 ?_
  refine g_aload_n S 4 dL_law_675 rfl ?_
  refine g_iload S 0 dL_law_676 rfl ?_
  refine g_const S dL_law_678 (v := 2) rfl ?_
  refine g_iadd S dL_law_679 ?_
  refine g_sld C S (q := j + 2) (nI_add j 2) (by omega) dL_law_680 ?_
  refine g_aload_n S 1 dL_law_681 rfl ?_
  refine g_calli (g_runSW S hC (As := [.ref (E.2.2 0), .int (xs (j + 1)), .int (xs (j + 2)), .ref (E.2.2 64)]) (rest := []) (kL_give l hfl E σ (xs (j + 1)) (xs (j + 2))) (vx_cwSW 4 S.2.2.2.2 gL_law_L_give rfl rfl rfl (by decide +kernel) ⟨Nat.le_of_ble_eq_true rfl, Nat.le_of_ble_eq_true rfl⟩) rfl rfl (Nat.le_of_ble_eq_true rfl) dL_law_682 ⟨hc, hs⟩) ?_
  refine g_istore S [(5, .int (sL_give_r σ (xs (j + 1)) (xs (j + 2)))), (4, .int (nI j)), (3, .ref (E.2.2 64)), (2, .ref (E.2.2 57)), (1, .ref (E.2.2 0)), (0, .ref b)] dL_law_685 (by decide) rfl ?_
  refine g_aload_n S 3 dL_law_687 rfl ?_
  refine g_aload_n S 5 dL_law_688 rfl ?_
  refine g_iload S 1 dL_law_689 rfl ?_
  refine g_const S dL_law_691 (v := 1) rfl ?_
  refine g_iadd S dL_law_692 ?_
  refine g_sld C S (q := j + 1) (nI_add j 1) (by omega) dL_law_693 ?_
  refine g_aload_n S 5 dL_law_694 rfl ?_
  refine g_iload S 1 dL_law_695 rfl ?_
  refine g_const S dL_law_697 (v := 2) rfl ?_
  refine g_iadd S dL_law_698 ?_
  refine g_sld C S (q := j + 2) (nI_add j 2) (by omega) dL_law_699 ?_
  refine g_calli (g_runV S hC (As := [.int (xs (j + 1)), .int (xs (j + 2))]) (rest := []) (k := 57) (by decide) rfl (by decide) rfl (kX8_give l E (sL_give_s σ (xs (j + 1)) (xs (j + 2))) (xs (j + 1)) (xs (j + 2))) (cwV 2 S.2.2.2.2 gL_law_X8_give rfl rfl rfl (by decide +kernel) ⟨Nat.le_of_ble_eq_true rfl, Nat.le_of_ble_eq_true rfl⟩) rfl rfl (Nat.le_of_ble_eq_true rfl) dL_law_700 ⟨by show _ ≤ 672043; omega, by show _ ≤ 7079974; omega⟩) ?_
  refine g_istore S [(6, .int (sX8_give_r (sL_give_s σ (xs (j + 1)) (xs (j + 2))) (xs (j + 1)) (xs (j + 2)))), (5, .int (sL_give_r σ (xs (j + 1)) (xs (j + 2)))), (4, .int (nI j)), (3, .ref (E.2.2 64)), (2, .ref (E.2.2 57)), (1, .ref (E.2.2 0)), (0, .ref b)] dL_law_703 (by decide) rfl ?_
  refine g_aload_n S 4 dL_law_705 rfl ?_
  refine g_calli (g_runV S hC (As := []) (rest := []) (k := 57) (by decide) rfl (by decide) rfl (kX8_thrown l E (sX8_give_s (sL_give_s σ (xs (j + 1)) (xs (j + 2))) (xs (j + 1)) (xs (j + 2)))) (cwV 0 S.2.2.2.2 gL_law_X8_thrown rfl rfl rfl (by decide +kernel) ⟨Nat.le_of_ble_eq_true rfl, Nat.le_of_ble_eq_true rfl⟩) rfl rfl (Nat.le_of_ble_eq_true rfl) dL_law_706 ⟨by show _ ≤ 672043; omega, by show _ ≤ 7079974; omega⟩) ?_
  refine g_iload S 1 dL_law_709 rfl ?_
  refine g_icmp_eq S 716 dL_law_711 (by decide) (fun c1 => ?_) (fun c1 => absurd h1 c1)
  refine g_iload S 1 dL_law_716 rfl ?_
  refine g_if_ne S 733 dL_law_718 (by decide) (fun c2 => ?_) (fun c2 => ?_)
  · skip
    refine g_goto S 1622 dL_law_733 (by decide) ?_
    refine g_lvs [2, 3, 4, 5, 6] (lv' := [(4, .int (nI j)), (3, .ref (E.2.2 64)), (2, .ref (E.2.2 57)), (1, .ref (E.2.2 0)), (0, .ref b)]) rfl ?_
    exact kk
  · have h3 := h2 c2
    refine g_aload_n S 3 dL_law_721 rfl ?_
    refine g_const S dL_law_722 (v := 0) rfl ?_
    refine g_lald S hC rfl dL_law_723 ?_
    refine g_iload S 0 dL_law_724 rfl ?_
    refine g_i2l S dL_law_726 ?_
    refine g_lcmp S dL_law_727 ?_
    refine g_if_eq S 733 dL_law_728 (by decide) (fun c3 => ?_) (fun c3 => absurd (by rw [h3]; exact lg_cmp_self _) c3)
    refine g_goto S 1622 dL_law_733 (by decide) ?_
    refine g_lvs [2, 3, 4, 5, 6] (lv' := [(4, .int (nI j)), (3, .ref (E.2.2 64)), (2, .ref (E.2.2 57)), (1, .ref (E.2.2 0)), (0, .ref b)]) rfl ?_
    exact kk
set_option maxRecDepth 100000 in
set_option maxHeartbeats 4000000 in
theorem law_load (C : gLC p l s m meth c b L xs E) (hj : j + 3 < L) (hc : cells + 5 ≤ 672043) (hs : slots + 30 ≤ 7079974) (hok : tOK σ 1) (hmk : mOK (sL_load_s σ (xs (j + 1)) (xs (j + 2)) (xs (j + 3)))) (h1 : (sX8_load_s (sL_load_s σ (xs (j + 1)) (xs (j + 2)) (xs (j + 3))) (xs (j + 1)) (xs (j + 2)) (xs (j + 3))).1 57 0 = (sL_load_r σ (xs (j + 1)) (xs (j + 2)) (xs (j + 3)))) (h2 : (sL_load_r σ (xs (j + 1)) (xs (j + 2)) (xs (j + 3))) = 0 → (sX8_load_s (sL_load_s σ (xs (j + 1)) (xs (j + 2)) (xs (j + 3))) (xs (j + 1)) (xs (j + 2)) (xs (j + 3))).2 0 = (Int32.toInt64 (sX8_load_r (sL_load_s σ (xs (j + 1)) (xs (j + 2)) (xs (j + 3))) (xs (j + 1)) (xs (j + 2)) (xs (j + 3)))))
    (kk : gLJ p l e s m below meth c b d0 E (sX8_load_s (sL_load_s σ (xs (j + 1)) (xs (j + 2)) (xs (j + 3))) (xs (j + 1)) (xs (j + 2)) (xs (j + 3))) (cells + 5) (slots + 30) 1622 (lvL E b j) []) : gLJ p l e s m below meth c b d0 E σ cells slots 736 (lvL E b j) [] := by
  have S := gS_dr C.1 d0
  have hC := C.2.2.2.1.dr d0
  have hfl := C.2.2.2.2.2.2.2.1
  unfold gLJ at kk ⊢
  unfold lvL at kk ⊢
  refine g_aload_n S 3 dL_law_736 rfl ?_
  refine g_aload_n S 4 dL_law_737 rfl ?_
  refine g_iload S 0 dL_law_738 rfl ?_
  refine g_const S dL_law_740 (v := 1) rfl ?_
  refine g_iadd S dL_law_741 ?_
  refine g_sld C S (q := j + 1) (nI_add j 1) (by omega) dL_law_742 ?_
  refine g_aload_n S 4 dL_law_743 rfl ?_
  refine g_iload S 0 dL_law_744 rfl ?_
  refine g_const S dL_law_746 (v := 2) rfl ?_
  refine g_iadd S dL_law_747 ?_
  refine g_sld C S (q := j + 2) (nI_add j 2) (by omega) dL_law_748 ?_
  refine g_aload_n S 4 dL_law_749 rfl ?_
  refine g_iload S 0 dL_law_750 rfl ?_
  refine g_const S dL_law_752 (v := 3) rfl ?_
  refine g_iadd S dL_law_753 ?_
  refine g_sld C S (q := j + 3) (nI_add j 3) (by omega) dL_law_754 ?_
  refine g_aload_n S 1 dL_law_755 rfl ?_
  refine g_calli (g_runSW S hC (As := [.ref (E.2.2 0), .int (xs (j + 1)), .int (xs (j + 2)), .int (xs (j + 3)), .ref (E.2.2 64)]) (rest := []) (kL_load l hfl E σ (xs (j + 1)) (xs (j + 2)) (xs (j + 3)) hok) (vx_cwSW 5 S.2.2.2.2 gL_law_L_load rfl rfl rfl (by decide +kernel) ⟨Nat.le_of_ble_eq_true rfl, Nat.le_of_ble_eq_true rfl⟩) rfl rfl (Nat.le_of_ble_eq_true rfl) dL_law_756 ⟨hc, hs⟩) ?_
  refine g_istore S [(5, .int (sL_load_r σ (xs (j + 1)) (xs (j + 2)) (xs (j + 3)))), (4, .int (nI j)), (3, .ref (E.2.2 64)), (2, .ref (E.2.2 57)), (1, .ref (E.2.2 0)), (0, .ref b)] dL_law_759 (by decide) rfl ?_
  refine g_aload_n S 3 dL_law_761 rfl ?_
  refine g_aload_n S 5 dL_law_762 rfl ?_
  refine g_iload S 1 dL_law_763 rfl ?_
  refine g_const S dL_law_765 (v := 1) rfl ?_
  refine g_iadd S dL_law_766 ?_
  refine g_sld C S (q := j + 1) (nI_add j 1) (by omega) dL_law_767 ?_
  refine g_aload_n S 5 dL_law_768 rfl ?_
  refine g_iload S 1 dL_law_769 rfl ?_
  refine g_const S dL_law_771 (v := 2) rfl ?_
  refine g_iadd S dL_law_772 ?_
  refine g_sld C S (q := j + 2) (nI_add j 2) (by omega) dL_law_773 ?_
  refine g_aload_n S 5 dL_law_774 rfl ?_
  refine g_iload S 1 dL_law_775 rfl ?_
  refine g_const S dL_law_777 (v := 3) rfl ?_
  refine g_iadd S dL_law_778 ?_
  refine g_sld C S (q := j + 3) (nI_add j 3) (by omega) dL_law_779 ?_
  refine g_calli (g_runV S hC (As := [.int (xs (j + 1)), .int (xs (j + 2)), .int (xs (j + 3))]) (rest := []) (k := 57) (by decide) rfl (by decide) rfl (kX8_load l E (sL_load_s σ (xs (j + 1)) (xs (j + 2)) (xs (j + 3))) (xs (j + 1)) (xs (j + 2)) (xs (j + 3)) hmk) (cwV 3 S.2.2.2.2 gL_law_X8_load rfl rfl rfl (by decide +kernel) ⟨Nat.le_of_ble_eq_true rfl, Nat.le_of_ble_eq_true rfl⟩) rfl rfl (Nat.le_of_ble_eq_true rfl) dL_law_780 ⟨by show _ ≤ 672043; omega, by show _ ≤ 7079974; omega⟩) ?_
  refine g_istore S [(6, .int (sX8_load_r (sL_load_s σ (xs (j + 1)) (xs (j + 2)) (xs (j + 3))) (xs (j + 1)) (xs (j + 2)) (xs (j + 3)))), (5, .int (sL_load_r σ (xs (j + 1)) (xs (j + 2)) (xs (j + 3)))), (4, .int (nI j)), (3, .ref (E.2.2 64)), (2, .ref (E.2.2 57)), (1, .ref (E.2.2 0)), (0, .ref b)] dL_law_783 (by decide) rfl ?_
  refine g_aload_n S 4 dL_law_785 rfl ?_
  refine g_calli (g_runV S hC (As := []) (rest := []) (k := 57) (by decide) rfl (by decide) rfl (kX8_thrown l E (sX8_load_s (sL_load_s σ (xs (j + 1)) (xs (j + 2)) (xs (j + 3))) (xs (j + 1)) (xs (j + 2)) (xs (j + 3)))) (cwV 0 S.2.2.2.2 gL_law_X8_thrown rfl rfl rfl (by decide +kernel) ⟨Nat.le_of_ble_eq_true rfl, Nat.le_of_ble_eq_true rfl⟩) rfl rfl (Nat.le_of_ble_eq_true rfl) dL_law_786 ⟨by show _ ≤ 672043; omega, by show _ ≤ 7079974; omega⟩) ?_
  refine g_iload S 1 dL_law_789 rfl ?_
  refine g_icmp_eq S 796 dL_law_791 (by decide) (fun c1 => ?_) (fun c1 => absurd h1 c1)
  refine g_iload S 1 dL_law_796 rfl ?_
  refine g_if_ne S 813 dL_law_798 (by decide) (fun c2 => ?_) (fun c2 => ?_)
  · skip
    refine g_goto S 1622 dL_law_813 (by decide) ?_
    refine g_lvs [2, 3, 4, 5, 6] (lv' := [(4, .int (nI j)), (3, .ref (E.2.2 64)), (2, .ref (E.2.2 57)), (1, .ref (E.2.2 0)), (0, .ref b)]) rfl ?_
    exact kk
  · have h3 := h2 c2
    refine g_aload_n S 3 dL_law_801 rfl ?_
    refine g_const S dL_law_802 (v := 0) rfl ?_
    refine g_lald S hC rfl dL_law_803 ?_
    refine g_iload S 0 dL_law_804 rfl ?_
    refine g_i2l S dL_law_806 ?_
    refine g_lcmp S dL_law_807 ?_
    refine g_if_eq S 813 dL_law_808 (by decide) (fun c3 => ?_) (fun c3 => absurd (by rw [h3]; exact lg_cmp_self _) c3)
    refine g_goto S 1622 dL_law_813 (by decide) ?_
    refine g_lvs [2, 3, 4, 5, 6] (lv' := [(4, .int (nI j)), (3, .ref (E.2.2 64)), (2, .ref (E.2.2 57)), (1, .ref (E.2.2 0)), (0, .ref b)]) rfl ?_
    exact kk
set_option maxRecDepth 100000 in
set_option maxHeartbeats 4000000 in
theorem law_take (C : gLC p l s m meth c b L xs E) (hj : j + 3 < L) (hc : cells + 2 ≤ 672043) (hs : slots + 12 ≤ 7079974) (hok : tOK σ 1) (hmk : mOK (sL_take_s σ (xs (j + 1)))) (h1 : (sX8_take_s (sL_take_s σ (xs (j + 1))) (xs (j + 1))).1 57 0 = (sL_take_r σ (xs (j + 1)))) (h2 : (sL_take_r σ (xs (j + 1))) = 0 → (sX8_take_s (sL_take_s σ (xs (j + 1))) (xs (j + 1))).2 0 = (Int32.toInt64 (sX8_take_r (sL_take_s σ (xs (j + 1))) (xs (j + 1)))))
    (kk : gLJ p l e s m below meth c b d0 E (sX8_take_s (sL_take_s σ (xs (j + 1))) (xs (j + 1))) (cells + 2) (slots + 12) 1622 (lvL E b j) []) : gLJ p l e s m below meth c b d0 E σ cells slots 816 (lvL E b j) [] := by
  have S := gS_dr C.1 d0
  have hC := C.2.2.2.1.dr d0
  have hfl := C.2.2.2.2.2.2.2.1
  unfold gLJ at kk ⊢
  unfold lvL at kk ⊢
  refine g_aload_n S 3 dL_law_816 rfl ?_
  refine g_aload_n S 4 dL_law_817 rfl ?_
  refine g_iload S 0 dL_law_818 rfl ?_
  refine g_const S dL_law_820 (v := 1) rfl ?_
  refine g_iadd S dL_law_821 ?_
  refine g_sld C S (q := j + 1) (nI_add j 1) (by omega) dL_law_822 ?_
  refine g_aload_n S 1 dL_law_823 rfl ?_
  refine g_calli (g_runSW S hC (As := [.ref (E.2.2 0), .int (xs (j + 1)), .ref (E.2.2 64)]) (rest := []) (kL_take l hfl E σ (xs (j + 1)) hok) (vx_cwSW 3 S.2.2.2.2 gL_law_L_take rfl rfl rfl (by decide +kernel) ⟨Nat.le_of_ble_eq_true rfl, Nat.le_of_ble_eq_true rfl⟩) rfl rfl (Nat.le_of_ble_eq_true rfl) dL_law_824 ⟨hc, hs⟩) ?_
  refine g_istore S [(5, .int (sL_take_r σ (xs (j + 1)))), (4, .int (nI j)), (3, .ref (E.2.2 64)), (2, .ref (E.2.2 57)), (1, .ref (E.2.2 0)), (0, .ref b)] dL_law_827 (by decide) rfl ?_
  refine g_aload_n S 3 dL_law_829 rfl ?_
  refine g_aload_n S 5 dL_law_830 rfl ?_
  refine g_iload S 1 dL_law_831 rfl ?_
  refine g_const S dL_law_833 (v := 1) rfl ?_
  refine g_iadd S dL_law_834 ?_
  refine g_sld C S (q := j + 1) (nI_add j 1) (by omega) dL_law_835 ?_
  refine g_calli (g_runV S hC (As := [.int (xs (j + 1))]) (rest := []) (k := 57) (by decide) rfl (by decide) rfl (kX8_take l E (sL_take_s σ (xs (j + 1))) (xs (j + 1)) hmk) (cwV 1 S.2.2.2.2 gL_law_X8_take rfl rfl rfl (by decide +kernel) ⟨Nat.le_of_ble_eq_true rfl, Nat.le_of_ble_eq_true rfl⟩) rfl rfl (Nat.le_of_ble_eq_true rfl) dL_law_836 ⟨by show _ ≤ 672043; omega, by show _ ≤ 7079974; omega⟩) ?_
  refine g_istore S [(6, .int (sX8_take_r (sL_take_s σ (xs (j + 1))) (xs (j + 1)))), (5, .int (sL_take_r σ (xs (j + 1)))), (4, .int (nI j)), (3, .ref (E.2.2 64)), (2, .ref (E.2.2 57)), (1, .ref (E.2.2 0)), (0, .ref b)] dL_law_839 (by decide) rfl ?_
  refine g_aload_n S 4 dL_law_841 rfl ?_
  refine g_calli (g_runV S hC (As := []) (rest := []) (k := 57) (by decide) rfl (by decide) rfl (kX8_thrown l E (sX8_take_s (sL_take_s σ (xs (j + 1))) (xs (j + 1)))) (cwV 0 S.2.2.2.2 gL_law_X8_thrown rfl rfl rfl (by decide +kernel) ⟨Nat.le_of_ble_eq_true rfl, Nat.le_of_ble_eq_true rfl⟩) rfl rfl (Nat.le_of_ble_eq_true rfl) dL_law_842 ⟨by show _ ≤ 672043; omega, by show _ ≤ 7079974; omega⟩) ?_
  refine g_iload S 1 dL_law_845 rfl ?_
  refine g_icmp_eq S 852 dL_law_847 (by decide) (fun c1 => ?_) (fun c1 => absurd h1 c1)
  refine g_iload S 1 dL_law_852 rfl ?_
  refine g_if_ne S 869 dL_law_854 (by decide) (fun c2 => ?_) (fun c2 => ?_)
  · skip
    refine g_goto S 1622 dL_law_869 (by decide) ?_
    refine g_lvs [2, 3, 4, 5, 6] (lv' := [(4, .int (nI j)), (3, .ref (E.2.2 64)), (2, .ref (E.2.2 57)), (1, .ref (E.2.2 0)), (0, .ref b)]) rfl ?_
    exact kk
  · have h3 := h2 c2
    refine g_aload_n S 3 dL_law_857 rfl ?_
    refine g_const S dL_law_858 (v := 0) rfl ?_
    refine g_lald S hC rfl dL_law_859 ?_
    refine g_iload S 0 dL_law_860 rfl ?_
    refine g_i2l S dL_law_862 ?_
    refine g_lcmp S dL_law_863 ?_
    refine g_if_eq S 869 dL_law_864 (by decide) (fun c3 => ?_) (fun c3 => absurd (by rw [h3]; exact lg_cmp_self _) c3)
    refine g_goto S 1622 dL_law_869 (by decide) ?_
    refine g_lvs [2, 3, 4, 5, 6] (lv' := [(4, .int (nI j)), (3, .ref (E.2.2 64)), (2, .ref (E.2.2 57)), (1, .ref (E.2.2 0)), (0, .ref b)]) rfl ?_
    exact kk
set_option maxRecDepth 100000 in
set_option maxHeartbeats 4000000 in
theorem law_send (C : gLC p l s m meth c b L xs E) (hj : j + 3 < L) (hc : cells + 2 ≤ 672043) (hs : slots + 12 ≤ 7079974) (hok : tOK σ 1) (hmk : mOK (sL_send_s σ (xs (j + 1)))) (h1 : (sX8_send_s (sL_send_s σ (xs (j + 1))) (xs (j + 1))).1 57 0 = (sL_send_r σ (xs (j + 1)))) (h2 : (sL_send_r σ (xs (j + 1))) = 0 → (sX8_send_s (sL_send_s σ (xs (j + 1))) (xs (j + 1))).2 0 = (Int32.toInt64 (sX8_send_r (sL_send_s σ (xs (j + 1))) (xs (j + 1)))))
    (kk : gLJ p l e s m below meth c b d0 E (sX8_send_s (sL_send_s σ (xs (j + 1))) (xs (j + 1))) (cells + 2) (slots + 12) 1622 (lvL E b j) []) : gLJ p l e s m below meth c b d0 E σ cells slots 872 (lvL E b j) [] := by
  have S := gS_dr C.1 d0
  have hC := C.2.2.2.1.dr d0
  have hfl := C.2.2.2.2.2.2.2.1
  unfold gLJ at kk ⊢
  unfold lvL at kk ⊢
  refine g_aload_n S 3 dL_law_872 rfl ?_
  refine g_aload_n S 4 dL_law_873 rfl ?_
  refine g_iload S 0 dL_law_874 rfl ?_
  refine g_const S dL_law_876 (v := 1) rfl ?_
  refine g_iadd S dL_law_877 ?_
  refine g_sld C S (q := j + 1) (nI_add j 1) (by omega) dL_law_878 ?_
  refine g_aload_n S 1 dL_law_879 rfl ?_
  refine g_calli (g_runSW S hC (As := [.ref (E.2.2 0), .int (xs (j + 1)), .ref (E.2.2 64)]) (rest := []) (kL_send l hfl E σ (xs (j + 1)) hok) (vx_cwSW 3 S.2.2.2.2 gL_law_L_send rfl rfl rfl (by decide +kernel) ⟨Nat.le_of_ble_eq_true rfl, Nat.le_of_ble_eq_true rfl⟩) rfl rfl (Nat.le_of_ble_eq_true rfl) dL_law_880 ⟨hc, hs⟩) ?_
  refine g_istore S [(5, .int (sL_send_r σ (xs (j + 1)))), (4, .int (nI j)), (3, .ref (E.2.2 64)), (2, .ref (E.2.2 57)), (1, .ref (E.2.2 0)), (0, .ref b)] dL_law_883 (by decide) rfl ?_
  refine g_aload_n S 3 dL_law_885 rfl ?_
  refine g_aload_n S 5 dL_law_886 rfl ?_
  refine g_iload S 1 dL_law_887 rfl ?_
  refine g_const S dL_law_889 (v := 1) rfl ?_
  refine g_iadd S dL_law_890 ?_
  refine g_sld C S (q := j + 1) (nI_add j 1) (by omega) dL_law_891 ?_
  refine g_calli (g_runV S hC (As := [.int (xs (j + 1))]) (rest := []) (k := 57) (by decide) rfl (by decide) rfl (kX8_send l E (sL_send_s σ (xs (j + 1))) (xs (j + 1)) hmk) (cwV 1 S.2.2.2.2 gL_law_X8_send rfl rfl rfl (by decide +kernel) ⟨Nat.le_of_ble_eq_true rfl, Nat.le_of_ble_eq_true rfl⟩) rfl rfl (Nat.le_of_ble_eq_true rfl) dL_law_892 ⟨by show _ ≤ 672043; omega, by show _ ≤ 7079974; omega⟩) ?_
  refine g_istore S [(6, .int (sX8_send_r (sL_send_s σ (xs (j + 1))) (xs (j + 1)))), (5, .int (sL_send_r σ (xs (j + 1)))), (4, .int (nI j)), (3, .ref (E.2.2 64)), (2, .ref (E.2.2 57)), (1, .ref (E.2.2 0)), (0, .ref b)] dL_law_895 (by decide) rfl ?_
  refine g_aload_n S 4 dL_law_897 rfl ?_
  refine g_calli (g_runV S hC (As := []) (rest := []) (k := 57) (by decide) rfl (by decide) rfl (kX8_thrown l E (sX8_send_s (sL_send_s σ (xs (j + 1))) (xs (j + 1)))) (cwV 0 S.2.2.2.2 gL_law_X8_thrown rfl rfl rfl (by decide +kernel) ⟨Nat.le_of_ble_eq_true rfl, Nat.le_of_ble_eq_true rfl⟩) rfl rfl (Nat.le_of_ble_eq_true rfl) dL_law_898 ⟨by show _ ≤ 672043; omega, by show _ ≤ 7079974; omega⟩) ?_
  refine g_iload S 1 dL_law_901 rfl ?_
  refine g_icmp_eq S 908 dL_law_903 (by decide) (fun c1 => ?_) (fun c1 => absurd h1 c1)
  refine g_iload S 1 dL_law_908 rfl ?_
  refine g_if_ne S 925 dL_law_910 (by decide) (fun c2 => ?_) (fun c2 => ?_)
  · skip
    refine g_goto S 1622 dL_law_925 (by decide) ?_
    refine g_lvs [2, 3, 4, 5, 6] (lv' := [(4, .int (nI j)), (3, .ref (E.2.2 64)), (2, .ref (E.2.2 57)), (1, .ref (E.2.2 0)), (0, .ref b)]) rfl ?_
    exact kk
  · have h3 := h2 c2
    refine g_aload_n S 3 dL_law_913 rfl ?_
    refine g_const S dL_law_914 (v := 0) rfl ?_
    refine g_lald S hC rfl dL_law_915 ?_
    refine g_iload S 0 dL_law_916 rfl ?_
    refine g_i2l S dL_law_918 ?_
    refine g_lcmp S dL_law_919 ?_
    refine g_if_eq S 925 dL_law_920 (by decide) (fun c3 => ?_) (fun c3 => absurd (by rw [h3]; exact lg_cmp_self _) c3)
    refine g_goto S 1622 dL_law_925 (by decide) ?_
    refine g_lvs [2, 3, 4, 5, 6] (lv' := [(4, .int (nI j)), (3, .ref (E.2.2 64)), (2, .ref (E.2.2 57)), (1, .ref (E.2.2 0)), (0, .ref b)]) rfl ?_
    exact kk
set_option maxRecDepth 100000 in
set_option maxHeartbeats 4000000 in
theorem law_about (C : gLC p l s m meth c b L xs E) (hj : j + 3 < L) (hc : cells + 2 ≤ 672043) (hs : slots + 12 ≤ 7079974) (hok : tOK σ 1) (hmk : mOK (sL_about_s σ (xs (j + 1)) (xs (j + 2)))) (h1 : (sX8_about_s (sL_about_s σ (xs (j + 1)) (xs (j + 2))) (xs (j + 1)) (xs (j + 2))).1 57 0 = (sL_about_r σ (xs (j + 1)) (xs (j + 2)))) (h2 : (sL_about_r σ (xs (j + 1)) (xs (j + 2))) = 0 → (sX8_about_s (sL_about_s σ (xs (j + 1)) (xs (j + 2))) (xs (j + 1)) (xs (j + 2))).2 0 = (Int32.toInt64 (sX8_about_r (sL_about_s σ (xs (j + 1)) (xs (j + 2))) (xs (j + 1)) (xs (j + 2)))))
    (kk : gLJ p l e s m below meth c b d0 E (sX8_about_s (sL_about_s σ (xs (j + 1)) (xs (j + 2))) (xs (j + 1)) (xs (j + 2))) (cells + 2) (slots + 12) 1622 (lvL E b j) []) : gLJ p l e s m below meth c b d0 E σ cells slots 928 (lvL E b j) [] := by
  have S := gS_dr C.1 d0
  have hC := C.2.2.2.1.dr d0
  have hfl := C.2.2.2.2.2.2.2.1
  unfold gLJ at kk ⊢
  unfold lvL at kk ⊢
  refine g_aload_n S 3 dL_law_928 rfl ?_
  refine g_aload_n S 4 dL_law_929 rfl ?_
  refine g_iload S 0 dL_law_930 rfl ?_
  refine g_const S dL_law_932 (v := 1) rfl ?_
  refine g_iadd S dL_law_933 ?_
  refine g_sld C S (q := j + 1) (nI_add j 1) (by omega) dL_law_934 ?_
  refine g_aload_n S 4 dL_law_935 rfl ?_
  refine g_iload S 0 dL_law_936 rfl ?_
  refine g_const S dL_law_938 (v := 2) rfl ?_
  refine g_iadd S dL_law_939 ?_
  refine g_sld C S (q := j + 2) (nI_add j 2) (by omega) dL_law_940 ?_
  refine g_aload_n S 1 dL_law_941 rfl ?_
  refine g_calli (g_runSW S hC (As := [.ref (E.2.2 0), .int (xs (j + 1)), .int (xs (j + 2)), .ref (E.2.2 64)]) (rest := []) (kL_about l hfl E σ (xs (j + 1)) (xs (j + 2)) hok) (vx_cwSW 4 S.2.2.2.2 gL_law_L_about rfl rfl rfl (by decide +kernel) ⟨Nat.le_of_ble_eq_true rfl, Nat.le_of_ble_eq_true rfl⟩) rfl rfl (Nat.le_of_ble_eq_true rfl) dL_law_942 ⟨hc, hs⟩) ?_
  refine g_istore S [(5, .int (sL_about_r σ (xs (j + 1)) (xs (j + 2)))), (4, .int (nI j)), (3, .ref (E.2.2 64)), (2, .ref (E.2.2 57)), (1, .ref (E.2.2 0)), (0, .ref b)] dL_law_945 (by decide) rfl ?_
  refine g_aload_n S 3 dL_law_947 rfl ?_
  refine g_aload_n S 5 dL_law_948 rfl ?_
  refine g_iload S 1 dL_law_949 rfl ?_
  refine g_const S dL_law_951 (v := 1) rfl ?_
  refine g_iadd S dL_law_952 ?_
  refine g_sld C S (q := j + 1) (nI_add j 1) (by omega) dL_law_953 ?_
  refine g_aload_n S 5 dL_law_954 rfl ?_
  refine g_iload S 1 dL_law_955 rfl ?_
  refine g_const S dL_law_957 (v := 2) rfl ?_
  refine g_iadd S dL_law_958 ?_
  refine g_sld C S (q := j + 2) (nI_add j 2) (by omega) dL_law_959 ?_
  refine g_calli (g_runV S hC (As := [.int (xs (j + 1)), .int (xs (j + 2))]) (rest := []) (k := 57) (by decide) rfl (by decide) rfl (kX8_about l E (sL_about_s σ (xs (j + 1)) (xs (j + 2))) (xs (j + 1)) (xs (j + 2)) hmk) (cwV 2 S.2.2.2.2 gL_law_X8_about rfl rfl rfl (by decide +kernel) ⟨Nat.le_of_ble_eq_true rfl, Nat.le_of_ble_eq_true rfl⟩) rfl rfl (Nat.le_of_ble_eq_true rfl) dL_law_960 ⟨by show _ ≤ 672043; omega, by show _ ≤ 7079974; omega⟩) ?_
  refine g_istore S [(6, .int (sX8_about_r (sL_about_s σ (xs (j + 1)) (xs (j + 2))) (xs (j + 1)) (xs (j + 2)))), (5, .int (sL_about_r σ (xs (j + 1)) (xs (j + 2)))), (4, .int (nI j)), (3, .ref (E.2.2 64)), (2, .ref (E.2.2 57)), (1, .ref (E.2.2 0)), (0, .ref b)] dL_law_963 (by decide) rfl ?_
  refine g_aload_n S 4 dL_law_965 rfl ?_
  refine g_calli (g_runV S hC (As := []) (rest := []) (k := 57) (by decide) rfl (by decide) rfl (kX8_thrown l E (sX8_about_s (sL_about_s σ (xs (j + 1)) (xs (j + 2))) (xs (j + 1)) (xs (j + 2)))) (cwV 0 S.2.2.2.2 gL_law_X8_thrown rfl rfl rfl (by decide +kernel) ⟨Nat.le_of_ble_eq_true rfl, Nat.le_of_ble_eq_true rfl⟩) rfl rfl (Nat.le_of_ble_eq_true rfl) dL_law_966 ⟨by show _ ≤ 672043; omega, by show _ ≤ 7079974; omega⟩) ?_
  refine g_iload S 1 dL_law_969 rfl ?_
  refine g_icmp_eq S 976 dL_law_971 (by decide) (fun c1 => ?_) (fun c1 => absurd h1 c1)
  refine g_iload S 1 dL_law_976 rfl ?_
  refine g_if_ne S 993 dL_law_978 (by decide) (fun c2 => ?_) (fun c2 => ?_)
  · skip
    refine g_goto S 1622 dL_law_993 (by decide) ?_
    refine g_lvs [2, 3, 4, 5, 6] (lv' := [(4, .int (nI j)), (3, .ref (E.2.2 64)), (2, .ref (E.2.2 57)), (1, .ref (E.2.2 0)), (0, .ref b)]) rfl ?_
    exact kk
  · have h3 := h2 c2
    refine g_aload_n S 3 dL_law_981 rfl ?_
    refine g_const S dL_law_982 (v := 0) rfl ?_
    refine g_lald S hC rfl dL_law_983 ?_
    refine g_iload S 0 dL_law_984 rfl ?_
    refine g_i2l S dL_law_986 ?_
    refine g_lcmp S dL_law_987 ?_
    refine g_if_eq S 993 dL_law_988 (by decide) (fun c3 => ?_) (fun c3 => absurd (by rw [h3]; exact lg_cmp_self _) c3)
    refine g_goto S 1622 dL_law_993 (by decide) ?_
    refine g_lvs [2, 3, 4, 5, 6] (lv' := [(4, .int (nI j)), (3, .ref (E.2.2 64)), (2, .ref (E.2.2 57)), (1, .ref (E.2.2 0)), (0, .ref b)]) rfl ?_
    exact kk
set_option maxRecDepth 100000 in
set_option maxHeartbeats 4000000 in
theorem law_roast (C : gLC p l s m meth c b L xs E) (hj : j + 3 < L) (hc : cells + 2 ≤ 672043) (hs : slots + 12 ≤ 7079974) (hok : tOK σ 1) (hmk : mOK (sL_roast_s σ (xs (j + 1)) (xs (j + 2)))) (h1 : (sX8_roast_s (sL_roast_s σ (xs (j + 1)) (xs (j + 2))) (xs (j + 1)) (xs (j + 2))).1 57 0 = (sL_roast_r σ (xs (j + 1)) (xs (j + 2)))) (h2 : (sL_roast_r σ (xs (j + 1)) (xs (j + 2))) = 0 → (sX8_roast_s (sL_roast_s σ (xs (j + 1)) (xs (j + 2))) (xs (j + 1)) (xs (j + 2))).2 0 = (Int32.toInt64 (sX8_roast_r (sL_roast_s σ (xs (j + 1)) (xs (j + 2))) (xs (j + 1)) (xs (j + 2)))))
    (kk : gLJ p l e s m below meth c b d0 E (sX8_roast_s (sL_roast_s σ (xs (j + 1)) (xs (j + 2))) (xs (j + 1)) (xs (j + 2))) (cells + 2) (slots + 12) 1622 (lvL E b j) []) : gLJ p l e s m below meth c b d0 E σ cells slots 996 (lvL E b j) [] := by
  have S := gS_dr C.1 d0
  have hC := C.2.2.2.1.dr d0
  have hfl := C.2.2.2.2.2.2.2.1
  unfold gLJ at kk ⊢
  unfold lvL at kk ⊢
  refine g_aload_n S 3 dL_law_996 rfl ?_
  refine g_aload_n S 4 dL_law_997 rfl ?_
  refine g_iload S 0 dL_law_998 rfl ?_
  refine g_const S dL_law_1000 (v := 1) rfl ?_
  refine g_iadd S dL_law_1001 ?_
  refine g_sld C S (q := j + 1) (nI_add j 1) (by omega) dL_law_1002 ?_
  refine g_aload_n S 4 dL_law_1003 rfl ?_
  refine g_iload S 0 dL_law_1004 rfl ?_
  refine g_const S dL_law_1006 (v := 2) rfl ?_
  refine g_iadd S dL_law_1007 ?_
  refine g_sld C S (q := j + 2) (nI_add j 2) (by omega) dL_law_1008 ?_
  refine g_aload_n S 1 dL_law_1009 rfl ?_
  refine g_calli (g_runSW S hC (As := [.ref (E.2.2 0), .int (xs (j + 1)), .int (xs (j + 2)), .ref (E.2.2 64)]) (rest := []) (kL_roast l hfl E σ (xs (j + 1)) (xs (j + 2)) hok) (vx_cwSW 4 S.2.2.2.2 gL_law_L_roast rfl rfl rfl (by decide +kernel) ⟨Nat.le_of_ble_eq_true rfl, Nat.le_of_ble_eq_true rfl⟩) rfl rfl (Nat.le_of_ble_eq_true rfl) dL_law_1010 ⟨hc, hs⟩) ?_
  refine g_istore S [(5, .int (sL_roast_r σ (xs (j + 1)) (xs (j + 2)))), (4, .int (nI j)), (3, .ref (E.2.2 64)), (2, .ref (E.2.2 57)), (1, .ref (E.2.2 0)), (0, .ref b)] dL_law_1013 (by decide) rfl ?_
  refine g_aload_n S 3 dL_law_1015 rfl ?_
  refine g_aload_n S 5 dL_law_1016 rfl ?_
  refine g_iload S 1 dL_law_1017 rfl ?_
  refine g_const S dL_law_1019 (v := 1) rfl ?_
  refine g_iadd S dL_law_1020 ?_
  refine g_sld C S (q := j + 1) (nI_add j 1) (by omega) dL_law_1021 ?_
  refine g_aload_n S 5 dL_law_1022 rfl ?_
  refine g_iload S 1 dL_law_1023 rfl ?_
  refine g_const S dL_law_1025 (v := 2) rfl ?_
  refine g_iadd S dL_law_1026 ?_
  refine g_sld C S (q := j + 2) (nI_add j 2) (by omega) dL_law_1027 ?_
  refine g_calli (g_runV S hC (As := [.int (xs (j + 1)), .int (xs (j + 2))]) (rest := []) (k := 57) (by decide) rfl (by decide) rfl (kX8_roast l E (sL_roast_s σ (xs (j + 1)) (xs (j + 2))) (xs (j + 1)) (xs (j + 2)) hmk) (cwV 2 S.2.2.2.2 gL_law_X8_roast rfl rfl rfl (by decide +kernel) ⟨Nat.le_of_ble_eq_true rfl, Nat.le_of_ble_eq_true rfl⟩) rfl rfl (Nat.le_of_ble_eq_true rfl) dL_law_1028 ⟨by show _ ≤ 672043; omega, by show _ ≤ 7079974; omega⟩) ?_
  refine g_istore S [(6, .int (sX8_roast_r (sL_roast_s σ (xs (j + 1)) (xs (j + 2))) (xs (j + 1)) (xs (j + 2)))), (5, .int (sL_roast_r σ (xs (j + 1)) (xs (j + 2)))), (4, .int (nI j)), (3, .ref (E.2.2 64)), (2, .ref (E.2.2 57)), (1, .ref (E.2.2 0)), (0, .ref b)] dL_law_1031 (by decide) rfl ?_
  refine g_aload_n S 4 dL_law_1033 rfl ?_
  refine g_calli (g_runV S hC (As := []) (rest := []) (k := 57) (by decide) rfl (by decide) rfl (kX8_thrown l E (sX8_roast_s (sL_roast_s σ (xs (j + 1)) (xs (j + 2))) (xs (j + 1)) (xs (j + 2)))) (cwV 0 S.2.2.2.2 gL_law_X8_thrown rfl rfl rfl (by decide +kernel) ⟨Nat.le_of_ble_eq_true rfl, Nat.le_of_ble_eq_true rfl⟩) rfl rfl (Nat.le_of_ble_eq_true rfl) dL_law_1034 ⟨by show _ ≤ 672043; omega, by show _ ≤ 7079974; omega⟩) ?_
  refine g_iload S 1 dL_law_1037 rfl ?_
  refine g_icmp_eq S 1044 dL_law_1039 (by decide) (fun c1 => ?_) (fun c1 => absurd h1 c1)
  refine g_iload S 1 dL_law_1044 rfl ?_
  refine g_if_ne S 1061 dL_law_1046 (by decide) (fun c2 => ?_) (fun c2 => ?_)
  · skip
    refine g_goto S 1622 dL_law_1061 (by decide) ?_
    refine g_lvs [2, 3, 4, 5, 6] (lv' := [(4, .int (nI j)), (3, .ref (E.2.2 64)), (2, .ref (E.2.2 57)), (1, .ref (E.2.2 0)), (0, .ref b)]) rfl ?_
    exact kk
  · have h3 := h2 c2
    refine g_aload_n S 3 dL_law_1049 rfl ?_
    refine g_const S dL_law_1050 (v := 0) rfl ?_
    refine g_lald S hC rfl dL_law_1051 ?_
    refine g_iload S 0 dL_law_1052 rfl ?_
    refine g_i2l S dL_law_1054 ?_
    refine g_lcmp S dL_law_1055 ?_
    refine g_if_eq S 1061 dL_law_1056 (by decide) (fun c3 => ?_) (fun c3 => absurd (by rw [h3]; exact lg_cmp_self _) c3)
    refine g_goto S 1622 dL_law_1061 (by decide) ?_
    refine g_lvs [2, 3, 4, 5, 6] (lv' := [(4, .int (nI j)), (3, .ref (E.2.2 64)), (2, .ref (E.2.2 57)), (1, .ref (E.2.2 0)), (0, .ref b)]) rfl ?_
    exact kk
set_option maxRecDepth 100000 in
set_option maxHeartbeats 4000000 in
theorem law_told (C : gLC p l s m meth c b L xs E) (hj : j + 3 < L) (hc : cells + 2 ≤ 672043) (hs : slots + 12 ≤ 7079974) (hok : tOK σ 1) (hmk : mOK (sL_told_s σ (xs (j + 1)) (xs (j + 2)))) (h1 : (sX8_told_s (sL_told_s σ (xs (j + 1)) (xs (j + 2))) (xs (j + 1)) (xs (j + 2))).1 57 0 = (sL_told_r σ (xs (j + 1)) (xs (j + 2)))) (h2 : (sL_told_r σ (xs (j + 1)) (xs (j + 2))) = 0 → (sX8_told_s (sL_told_s σ (xs (j + 1)) (xs (j + 2))) (xs (j + 1)) (xs (j + 2))).2 0 = (Int32.toInt64 (sX8_told_r (sL_told_s σ (xs (j + 1)) (xs (j + 2))) (xs (j + 1)) (xs (j + 2)))))
    (kk : gLJ p l e s m below meth c b d0 E (sX8_told_s (sL_told_s σ (xs (j + 1)) (xs (j + 2))) (xs (j + 1)) (xs (j + 2))) (cells + 2) (slots + 12) 1622 (lvL E b j) []) : gLJ p l e s m below meth c b d0 E σ cells slots 1064 (lvL E b j) [] := by
  have S := gS_dr C.1 d0
  have hC := C.2.2.2.1.dr d0
  have hfl := C.2.2.2.2.2.2.2.1
  unfold gLJ at kk ⊢
  unfold lvL at kk ⊢
  refine g_aload_n S 3 dL_law_1064 rfl ?_
  refine g_aload_n S 4 dL_law_1065 rfl ?_
  refine g_iload S 0 dL_law_1066 rfl ?_
  refine g_const S dL_law_1068 (v := 1) rfl ?_
  refine g_iadd S dL_law_1069 ?_
  refine g_sld C S (q := j + 1) (nI_add j 1) (by omega) dL_law_1070 ?_
  refine g_aload_n S 4 dL_law_1071 rfl ?_
  refine g_iload S 0 dL_law_1072 rfl ?_
  refine g_const S dL_law_1074 (v := 2) rfl ?_
  refine g_iadd S dL_law_1075 ?_
  refine g_sld C S (q := j + 2) (nI_add j 2) (by omega) dL_law_1076 ?_
  refine g_aload_n S 1 dL_law_1077 rfl ?_
  refine g_calli (g_runSW S hC (As := [.ref (E.2.2 0), .int (xs (j + 1)), .int (xs (j + 2)), .ref (E.2.2 64)]) (rest := []) (kL_told l hfl E σ (xs (j + 1)) (xs (j + 2)) hok) (vx_cwSW 4 S.2.2.2.2 gL_law_L_told rfl rfl rfl (by decide +kernel) ⟨Nat.le_of_ble_eq_true rfl, Nat.le_of_ble_eq_true rfl⟩) rfl rfl (Nat.le_of_ble_eq_true rfl) dL_law_1078 ⟨hc, hs⟩) ?_
  refine g_istore S [(5, .int (sL_told_r σ (xs (j + 1)) (xs (j + 2)))), (4, .int (nI j)), (3, .ref (E.2.2 64)), (2, .ref (E.2.2 57)), (1, .ref (E.2.2 0)), (0, .ref b)] dL_law_1081 (by decide) rfl ?_
  refine g_aload_n S 3 dL_law_1083 rfl ?_
  refine g_aload_n S 5 dL_law_1084 rfl ?_
  refine g_iload S 1 dL_law_1085 rfl ?_
  refine g_const S dL_law_1087 (v := 1) rfl ?_
  refine g_iadd S dL_law_1088 ?_
  refine g_sld C S (q := j + 1) (nI_add j 1) (by omega) dL_law_1089 ?_
  refine g_aload_n S 5 dL_law_1090 rfl ?_
  refine g_iload S 1 dL_law_1091 rfl ?_
  refine g_const S dL_law_1093 (v := 2) rfl ?_
  refine g_iadd S dL_law_1094 ?_
  refine g_sld C S (q := j + 2) (nI_add j 2) (by omega) dL_law_1095 ?_
  refine g_calli (g_runV S hC (As := [.int (xs (j + 1)), .int (xs (j + 2))]) (rest := []) (k := 57) (by decide) rfl (by decide) rfl (kX8_told l E (sL_told_s σ (xs (j + 1)) (xs (j + 2))) (xs (j + 1)) (xs (j + 2)) hmk) (cwV 2 S.2.2.2.2 gL_law_X8_told rfl rfl rfl (by decide +kernel) ⟨Nat.le_of_ble_eq_true rfl, Nat.le_of_ble_eq_true rfl⟩) rfl rfl (Nat.le_of_ble_eq_true rfl) dL_law_1096 ⟨by show _ ≤ 672043; omega, by show _ ≤ 7079974; omega⟩) ?_
  refine g_istore S [(6, .int (sX8_told_r (sL_told_s σ (xs (j + 1)) (xs (j + 2))) (xs (j + 1)) (xs (j + 2)))), (5, .int (sL_told_r σ (xs (j + 1)) (xs (j + 2)))), (4, .int (nI j)), (3, .ref (E.2.2 64)), (2, .ref (E.2.2 57)), (1, .ref (E.2.2 0)), (0, .ref b)] dL_law_1099 (by decide) rfl ?_
  refine g_aload_n S 4 dL_law_1101 rfl ?_
  refine g_calli (g_runV S hC (As := []) (rest := []) (k := 57) (by decide) rfl (by decide) rfl (kX8_thrown l E (sX8_told_s (sL_told_s σ (xs (j + 1)) (xs (j + 2))) (xs (j + 1)) (xs (j + 2)))) (cwV 0 S.2.2.2.2 gL_law_X8_thrown rfl rfl rfl (by decide +kernel) ⟨Nat.le_of_ble_eq_true rfl, Nat.le_of_ble_eq_true rfl⟩) rfl rfl (Nat.le_of_ble_eq_true rfl) dL_law_1102 ⟨by show _ ≤ 672043; omega, by show _ ≤ 7079974; omega⟩) ?_
  refine g_iload S 1 dL_law_1105 rfl ?_
  refine g_icmp_eq S 1112 dL_law_1107 (by decide) (fun c1 => ?_) (fun c1 => absurd h1 c1)
  refine g_iload S 1 dL_law_1112 rfl ?_
  refine g_if_ne S 1129 dL_law_1114 (by decide) (fun c2 => ?_) (fun c2 => ?_)
  · skip
    refine g_goto S 1622 dL_law_1129 (by decide) ?_
    refine g_lvs [2, 3, 4, 5, 6] (lv' := [(4, .int (nI j)), (3, .ref (E.2.2 64)), (2, .ref (E.2.2 57)), (1, .ref (E.2.2 0)), (0, .ref b)]) rfl ?_
    exact kk
  · have h3 := h2 c2
    refine g_aload_n S 3 dL_law_1117 rfl ?_
    refine g_const S dL_law_1118 (v := 0) rfl ?_
    refine g_lald S hC rfl dL_law_1119 ?_
    refine g_iload S 0 dL_law_1120 rfl ?_
    refine g_i2l S dL_law_1122 ?_
    refine g_lcmp S dL_law_1123 ?_
    refine g_if_eq S 1129 dL_law_1124 (by decide) (fun c3 => ?_) (fun c3 => absurd (by rw [h3]; exact lg_cmp_self _) c3)
    refine g_goto S 1622 dL_law_1129 (by decide) ?_
    refine g_lvs [2, 3, 4, 5, 6] (lv' := [(4, .int (nI j)), (3, .ref (E.2.2 64)), (2, .ref (E.2.2 57)), (1, .ref (E.2.2 0)), (0, .ref b)]) rfl ?_
    exact kk
set_option maxRecDepth 100000 in
set_option maxHeartbeats 4000000 in
theorem law_ration (C : gLC p l s m meth c b L xs E) (hj : j + 3 < L) (hc : cells + 2 ≤ 672043) (hs : slots + 12 ≤ 7079974) (hok : tOK σ 1) (hmk : mOK (sL_ration_s σ (xs (j + 1)) (xs (j + 2)))) (h1 : (sX8_ration_s (sL_ration_s σ (xs (j + 1)) (xs (j + 2))) (xs (j + 1)) (xs (j + 2))).1 57 0 = (sL_ration_r σ (xs (j + 1)) (xs (j + 2)))) (h2 : (sL_ration_r σ (xs (j + 1)) (xs (j + 2))) = 0 → (sX8_ration_s (sL_ration_s σ (xs (j + 1)) (xs (j + 2))) (xs (j + 1)) (xs (j + 2))).2 0 = (Int32.toInt64 (sX8_ration_r (sL_ration_s σ (xs (j + 1)) (xs (j + 2))) (xs (j + 1)) (xs (j + 2)))))
    (kk : gLJ p l e s m below meth c b d0 E (sX8_ration_s (sL_ration_s σ (xs (j + 1)) (xs (j + 2))) (xs (j + 1)) (xs (j + 2))) (cells + 2) (slots + 12) 1622 (lvL E b j) []) : gLJ p l e s m below meth c b d0 E σ cells slots 1132 (lvL E b j) [] := by
  have S := gS_dr C.1 d0
  have hC := C.2.2.2.1.dr d0
  have hfl := C.2.2.2.2.2.2.2.1
  unfold gLJ at kk ⊢
  unfold lvL at kk ⊢
  refine g_aload_n S 3 dL_law_1132 rfl ?_
  refine g_aload_n S 4 dL_law_1133 rfl ?_
  refine g_iload S 0 dL_law_1134 rfl ?_
  refine g_const S dL_law_1136 (v := 1) rfl ?_
  refine g_iadd S dL_law_1137 ?_
  refine g_sld C S (q := j + 1) (nI_add j 1) (by omega) dL_law_1138 ?_
  refine g_aload_n S 4 dL_law_1139 rfl ?_
  refine g_iload S 0 dL_law_1140 rfl ?_
  refine g_const S dL_law_1142 (v := 2) rfl ?_
  refine g_iadd S dL_law_1143 ?_
  refine g_sld C S (q := j + 2) (nI_add j 2) (by omega) dL_law_1144 ?_
  refine g_aload_n S 1 dL_law_1145 rfl ?_
  refine g_calli (g_runSW S hC (As := [.ref (E.2.2 0), .int (xs (j + 1)), .int (xs (j + 2)), .ref (E.2.2 64)]) (rest := []) (kL_ration l hfl E σ (xs (j + 1)) (xs (j + 2)) hok) (vx_cwSW 4 S.2.2.2.2 gL_law_L_ration rfl rfl rfl (by decide +kernel) ⟨Nat.le_of_ble_eq_true rfl, Nat.le_of_ble_eq_true rfl⟩) rfl rfl (Nat.le_of_ble_eq_true rfl) dL_law_1146 ⟨hc, hs⟩) ?_
  refine g_istore S [(5, .int (sL_ration_r σ (xs (j + 1)) (xs (j + 2)))), (4, .int (nI j)), (3, .ref (E.2.2 64)), (2, .ref (E.2.2 57)), (1, .ref (E.2.2 0)), (0, .ref b)] dL_law_1149 (by decide) rfl ?_
  refine g_aload_n S 3 dL_law_1151 rfl ?_
  refine g_aload_n S 5 dL_law_1152 rfl ?_
  refine g_iload S 1 dL_law_1153 rfl ?_
  refine g_const S dL_law_1155 (v := 1) rfl ?_
  refine g_iadd S dL_law_1156 ?_
  refine g_sld C S (q := j + 1) (nI_add j 1) (by omega) dL_law_1157 ?_
  refine g_aload_n S 5 dL_law_1158 rfl ?_
  refine g_iload S 1 dL_law_1159 rfl ?_
  refine g_const S dL_law_1161 (v := 2) rfl ?_
  refine g_iadd S dL_law_1162 ?_
  refine g_sld C S (q := j + 2) (nI_add j 2) (by omega) dL_law_1163 ?_
  refine g_calli (g_runV S hC (As := [.int (xs (j + 1)), .int (xs (j + 2))]) (rest := []) (k := 57) (by decide) rfl (by decide) rfl (kX8_ration l E (sL_ration_s σ (xs (j + 1)) (xs (j + 2))) (xs (j + 1)) (xs (j + 2)) hmk) (cwV 2 S.2.2.2.2 gL_law_X8_ration rfl rfl rfl (by decide +kernel) ⟨Nat.le_of_ble_eq_true rfl, Nat.le_of_ble_eq_true rfl⟩) rfl rfl (Nat.le_of_ble_eq_true rfl) dL_law_1164 ⟨by show _ ≤ 672043; omega, by show _ ≤ 7079974; omega⟩) ?_
  refine g_istore S [(6, .int (sX8_ration_r (sL_ration_s σ (xs (j + 1)) (xs (j + 2))) (xs (j + 1)) (xs (j + 2)))), (5, .int (sL_ration_r σ (xs (j + 1)) (xs (j + 2)))), (4, .int (nI j)), (3, .ref (E.2.2 64)), (2, .ref (E.2.2 57)), (1, .ref (E.2.2 0)), (0, .ref b)] dL_law_1167 (by decide) rfl ?_
  refine g_aload_n S 4 dL_law_1169 rfl ?_
  refine g_calli (g_runV S hC (As := []) (rest := []) (k := 57) (by decide) rfl (by decide) rfl (kX8_thrown l E (sX8_ration_s (sL_ration_s σ (xs (j + 1)) (xs (j + 2))) (xs (j + 1)) (xs (j + 2)))) (cwV 0 S.2.2.2.2 gL_law_X8_thrown rfl rfl rfl (by decide +kernel) ⟨Nat.le_of_ble_eq_true rfl, Nat.le_of_ble_eq_true rfl⟩) rfl rfl (Nat.le_of_ble_eq_true rfl) dL_law_1170 ⟨by show _ ≤ 672043; omega, by show _ ≤ 7079974; omega⟩) ?_
  refine g_iload S 1 dL_law_1173 rfl ?_
  refine g_icmp_eq S 1180 dL_law_1175 (by decide) (fun c1 => ?_) (fun c1 => absurd h1 c1)
  refine g_iload S 1 dL_law_1180 rfl ?_
  refine g_if_ne S 1197 dL_law_1182 (by decide) (fun c2 => ?_) (fun c2 => ?_)
  · skip
    refine g_goto S 1622 dL_law_1197 (by decide) ?_
    refine g_lvs [2, 3, 4, 5, 6] (lv' := [(4, .int (nI j)), (3, .ref (E.2.2 64)), (2, .ref (E.2.2 57)), (1, .ref (E.2.2 0)), (0, .ref b)]) rfl ?_
    exact kk
  · have h3 := h2 c2
    refine g_aload_n S 3 dL_law_1185 rfl ?_
    refine g_const S dL_law_1186 (v := 0) rfl ?_
    refine g_lald S hC rfl dL_law_1187 ?_
    refine g_iload S 0 dL_law_1188 rfl ?_
    refine g_i2l S dL_law_1190 ?_
    refine g_lcmp S dL_law_1191 ?_
    refine g_if_eq S 1197 dL_law_1192 (by decide) (fun c3 => ?_) (fun c3 => absurd (by rw [h3]; exact lg_cmp_self _) c3)
    refine g_goto S 1622 dL_law_1197 (by decide) ?_
    refine g_lvs [2, 3, 4, 5, 6] (lv' := [(4, .int (nI j)), (3, .ref (E.2.2 64)), (2, .ref (E.2.2 57)), (1, .ref (E.2.2 0)), (0, .ref b)]) rfl ?_
    exact kk
set_option maxRecDepth 100000 in
set_option maxHeartbeats 4000000 in
theorem law_count (C : gLC p l s m meth c b L xs E) (hj : j + 3 < L) (hc : cells + 1 ≤ 672043) (hs : slots + 6 ≤ 7079974) (h1 : (sX8_count_s (sL_count_s σ (xs (j + 1))) (xs (j + 1))).1 57 0 = (sL_count_r σ (xs (j + 1)))) (h2 : (sL_count_r σ (xs (j + 1))) = 0 → (sX8_count_s (sL_count_s σ (xs (j + 1))) (xs (j + 1))).2 0 = (Int32.toInt64 (sX8_count_r (sL_count_s σ (xs (j + 1))) (xs (j + 1)))))
    (kk : gLJ p l e s m below meth c b d0 E (sX8_count_s (sL_count_s σ (xs (j + 1))) (xs (j + 1))) (cells + 1) (slots + 6) 1622 (lvL E b j) []) : gLJ p l e s m below meth c b d0 E σ cells slots 1200 (lvL E b j) [] := by
  have S := gS_dr C.1 d0
  have hC := C.2.2.2.1.dr d0
  have hfl := C.2.2.2.2.2.2.2.1
  unfold gLJ at kk ⊢
  unfold lvL at kk ⊢
  refine g_aload_n S 3 dL_law_1200 rfl ?_
  refine g_aload_n S 4 dL_law_1201 rfl ?_
  refine g_iload S 0 dL_law_1202 rfl ?_
  refine g_const S dL_law_1204 (v := 1) rfl ?_
  refine g_iadd S dL_law_1205 ?_
  refine g_sld C S (q := j + 1) (nI_add j 1) (by omega) dL_law_1206 ?_
  refine g_aload_n S 1 dL_law_1207 rfl ?_
  refine g_calli (g_runSW S hC (As := [.ref (E.2.2 0), .int (xs (j + 1)), .ref (E.2.2 64)]) (rest := []) (kL_count l hfl E σ (xs (j + 1))) (vx_cwSW 3 S.2.2.2.2 gL_law_L_count rfl rfl rfl (by decide +kernel) ⟨Nat.le_of_ble_eq_true rfl, Nat.le_of_ble_eq_true rfl⟩) rfl rfl (Nat.le_of_ble_eq_true rfl) dL_law_1208 ⟨hc, hs⟩) ?_
  refine g_istore S [(5, .int (sL_count_r σ (xs (j + 1)))), (4, .int (nI j)), (3, .ref (E.2.2 64)), (2, .ref (E.2.2 57)), (1, .ref (E.2.2 0)), (0, .ref b)] dL_law_1211 (by decide) rfl ?_
  refine g_aload_n S 3 dL_law_1213 rfl ?_
  refine g_aload_n S 5 dL_law_1214 rfl ?_
  refine g_iload S 1 dL_law_1215 rfl ?_
  refine g_const S dL_law_1217 (v := 1) rfl ?_
  refine g_iadd S dL_law_1218 ?_
  refine g_sld C S (q := j + 1) (nI_add j 1) (by omega) dL_law_1219 ?_
  refine g_calli (g_runV S hC (As := [.int (xs (j + 1))]) (rest := []) (k := 57) (by decide) rfl (by decide) rfl (kX8_count l E (sL_count_s σ (xs (j + 1))) (xs (j + 1))) (cwV 1 S.2.2.2.2 gL_law_X8_count rfl rfl rfl (by decide +kernel) ⟨Nat.le_of_ble_eq_true rfl, Nat.le_of_ble_eq_true rfl⟩) rfl rfl (Nat.le_of_ble_eq_true rfl) dL_law_1220 ⟨by show _ ≤ 672043; omega, by show _ ≤ 7079974; omega⟩) ?_
  refine g_istore S [(6, .int (sX8_count_r (sL_count_s σ (xs (j + 1))) (xs (j + 1)))), (5, .int (sL_count_r σ (xs (j + 1)))), (4, .int (nI j)), (3, .ref (E.2.2 64)), (2, .ref (E.2.2 57)), (1, .ref (E.2.2 0)), (0, .ref b)] dL_law_1223 (by decide) rfl ?_
  refine g_aload_n S 4 dL_law_1225 rfl ?_
  refine g_calli (g_runV S hC (As := []) (rest := []) (k := 57) (by decide) rfl (by decide) rfl (kX8_thrown l E (sX8_count_s (sL_count_s σ (xs (j + 1))) (xs (j + 1)))) (cwV 0 S.2.2.2.2 gL_law_X8_thrown rfl rfl rfl (by decide +kernel) ⟨Nat.le_of_ble_eq_true rfl, Nat.le_of_ble_eq_true rfl⟩) rfl rfl (Nat.le_of_ble_eq_true rfl) dL_law_1226 ⟨by show _ ≤ 672043; omega, by show _ ≤ 7079974; omega⟩) ?_
  refine g_iload S 1 dL_law_1229 rfl ?_
  refine g_icmp_eq S 1236 dL_law_1231 (by decide) (fun c1 => ?_) (fun c1 => absurd h1 c1)
  refine g_iload S 1 dL_law_1236 rfl ?_
  refine g_if_ne S 1253 dL_law_1238 (by decide) (fun c2 => ?_) (fun c2 => ?_)
  · skip
    refine g_goto S 1622 dL_law_1253 (by decide) ?_
    refine g_lvs [2, 3, 4, 5, 6] (lv' := [(4, .int (nI j)), (3, .ref (E.2.2 64)), (2, .ref (E.2.2 57)), (1, .ref (E.2.2 0)), (0, .ref b)]) rfl ?_
    exact kk
  · have h3 := h2 c2
    refine g_aload_n S 3 dL_law_1241 rfl ?_
    refine g_const S dL_law_1242 (v := 0) rfl ?_
    refine g_lald S hC rfl dL_law_1243 ?_
    refine g_iload S 0 dL_law_1244 rfl ?_
    refine g_i2l S dL_law_1246 ?_
    refine g_lcmp S dL_law_1247 ?_
    refine g_if_eq S 1253 dL_law_1248 (by decide) (fun c3 => ?_) (fun c3 => absurd (by rw [h3]; exact lg_cmp_self _) c3)
    refine g_goto S 1622 dL_law_1253 (by decide) ?_
    refine g_lvs [2, 3, 4, 5, 6] (lv' := [(4, .int (nI j)), (3, .ref (E.2.2 64)), (2, .ref (E.2.2 57)), (1, .ref (E.2.2 0)), (0, .ref b)]) rfl ?_
    exact kk
set_option maxRecDepth 100000 in
set_option maxHeartbeats 4000000 in
theorem law_pass (C : gLC p l s m meth c b L xs E) (hj : j + 3 < L) (hc : cells + 1 ≤ 672043) (hs : slots + 6 ≤ 7079974) (hok : tOK σ 1) (hmk : mOK (sL_pass_s σ (xs (j + 1)))) (h1 : (sX8_pass_s (sL_pass_s σ (xs (j + 1))) (xs (j + 1))).1 57 0 = (sL_pass_r σ (xs (j + 1)))) (h2 : (sL_pass_r σ (xs (j + 1))) = 0 → (sX8_pass_s (sL_pass_s σ (xs (j + 1))) (xs (j + 1))).2 0 = (Int32.toInt64 (sX8_pass_r (sL_pass_s σ (xs (j + 1))) (xs (j + 1)))))
    (kk : gLJ p l e s m below meth c b d0 E (sX8_pass_s (sL_pass_s σ (xs (j + 1))) (xs (j + 1))) (cells + 1) (slots + 6) 1622 (lvL E b j) []) : gLJ p l e s m below meth c b d0 E σ cells slots 1256 (lvL E b j) [] := by
  have S := gS_dr C.1 d0
  have hC := C.2.2.2.1.dr d0
  have hfl := C.2.2.2.2.2.2.2.1
  unfold gLJ at kk ⊢
  unfold lvL at kk ⊢
  refine g_aload_n S 3 dL_law_1256 rfl ?_
  refine g_aload_n S 4 dL_law_1257 rfl ?_
  refine g_iload S 0 dL_law_1258 rfl ?_
  refine g_const S dL_law_1260 (v := 1) rfl ?_
  refine g_iadd S dL_law_1261 ?_
  refine g_sld C S (q := j + 1) (nI_add j 1) (by omega) dL_law_1262 ?_
  refine g_aload_n S 1 dL_law_1263 rfl ?_
  refine g_calli (g_runSW S hC (As := [.ref (E.2.2 0), .int (xs (j + 1)), .ref (E.2.2 64)]) (rest := []) (kL_pass l hfl E σ (xs (j + 1)) hok) (vx_cwSW 3 S.2.2.2.2 gL_law_L_pass rfl rfl rfl (by decide +kernel) ⟨Nat.le_of_ble_eq_true rfl, Nat.le_of_ble_eq_true rfl⟩) rfl rfl (Nat.le_of_ble_eq_true rfl) dL_law_1264 ⟨hc, hs⟩) ?_
  refine g_istore S [(5, .int (sL_pass_r σ (xs (j + 1)))), (4, .int (nI j)), (3, .ref (E.2.2 64)), (2, .ref (E.2.2 57)), (1, .ref (E.2.2 0)), (0, .ref b)] dL_law_1267 (by decide) rfl ?_
  refine g_aload_n S 3 dL_law_1269 rfl ?_
  refine g_aload_n S 5 dL_law_1270 rfl ?_
  refine g_iload S 1 dL_law_1271 rfl ?_
  refine g_const S dL_law_1273 (v := 1) rfl ?_
  refine g_iadd S dL_law_1274 ?_
  refine g_sld C S (q := j + 1) (nI_add j 1) (by omega) dL_law_1275 ?_
  refine g_calli (g_runV S hC (As := [.int (xs (j + 1))]) (rest := []) (k := 57) (by decide) rfl (by decide) rfl (kX8_pass l E (sL_pass_s σ (xs (j + 1))) (xs (j + 1)) hmk) (cwV 1 S.2.2.2.2 gL_law_X8_pass rfl rfl rfl (by decide +kernel) ⟨Nat.le_of_ble_eq_true rfl, Nat.le_of_ble_eq_true rfl⟩) rfl rfl (Nat.le_of_ble_eq_true rfl) dL_law_1276 ⟨by show _ ≤ 672043; omega, by show _ ≤ 7079974; omega⟩) ?_
  refine g_istore S [(6, .int (sX8_pass_r (sL_pass_s σ (xs (j + 1))) (xs (j + 1)))), (5, .int (sL_pass_r σ (xs (j + 1)))), (4, .int (nI j)), (3, .ref (E.2.2 64)), (2, .ref (E.2.2 57)), (1, .ref (E.2.2 0)), (0, .ref b)] dL_law_1279 (by decide) rfl ?_
  refine g_aload_n S 4 dL_law_1281 rfl ?_
  refine g_calli (g_runV S hC (As := []) (rest := []) (k := 57) (by decide) rfl (by decide) rfl (kX8_thrown l E (sX8_pass_s (sL_pass_s σ (xs (j + 1))) (xs (j + 1)))) (cwV 0 S.2.2.2.2 gL_law_X8_thrown rfl rfl rfl (by decide +kernel) ⟨Nat.le_of_ble_eq_true rfl, Nat.le_of_ble_eq_true rfl⟩) rfl rfl (Nat.le_of_ble_eq_true rfl) dL_law_1282 ⟨by show _ ≤ 672043; omega, by show _ ≤ 7079974; omega⟩) ?_
  refine g_iload S 1 dL_law_1285 rfl ?_
  refine g_icmp_eq S 1292 dL_law_1287 (by decide) (fun c1 => ?_) (fun c1 => absurd h1 c1)
  refine g_iload S 1 dL_law_1292 rfl ?_
  refine g_if_ne S 1309 dL_law_1294 (by decide) (fun c2 => ?_) (fun c2 => ?_)
  · skip
    refine g_goto S 1622 dL_law_1309 (by decide) ?_
    refine g_lvs [2, 3, 4, 5, 6] (lv' := [(4, .int (nI j)), (3, .ref (E.2.2 64)), (2, .ref (E.2.2 57)), (1, .ref (E.2.2 0)), (0, .ref b)]) rfl ?_
    exact kk
  · have h3 := h2 c2
    refine g_aload_n S 3 dL_law_1297 rfl ?_
    refine g_const S dL_law_1298 (v := 0) rfl ?_
    refine g_lald S hC rfl dL_law_1299 ?_
    refine g_iload S 0 dL_law_1300 rfl ?_
    refine g_i2l S dL_law_1302 ?_
    refine g_lcmp S dL_law_1303 ?_
    refine g_if_eq S 1309 dL_law_1304 (by decide) (fun c3 => ?_) (fun c3 => absurd (by rw [h3]; exact lg_cmp_self _) c3)
    refine g_goto S 1622 dL_law_1309 (by decide) ?_
    refine g_lvs [2, 3, 4, 5, 6] (lv' := [(4, .int (nI j)), (3, .ref (E.2.2 64)), (2, .ref (E.2.2 57)), (1, .ref (E.2.2 0)), (0, .ref b)]) rfl ?_
    exact kk
set_option maxRecDepth 100000 in
set_option maxHeartbeats 4000000 in
theorem law_foresee (C : gLC p l s m meth c b L xs E) (hj : j + 3 < L) (hc : cells + 2 ≤ 672043) (hs : slots + 12 ≤ 7079974) (hok : tOK σ 1) (hmk : mOK (sL_foresee_s σ (xs (j + 1)) (xs (j + 2)))) (h1 : (sX8_foresee_s (sL_foresee_s σ (xs (j + 1)) (xs (j + 2))) (xs (j + 1)) (xs (j + 2))).1 57 0 = (sL_foresee_r σ (xs (j + 1)) (xs (j + 2)))) (h2 : (sL_foresee_r σ (xs (j + 1)) (xs (j + 2))) = 0 → (sX8_foresee_s (sL_foresee_s σ (xs (j + 1)) (xs (j + 2))) (xs (j + 1)) (xs (j + 2))).2 0 = (Int32.toInt64 (sX8_foresee_r (sL_foresee_s σ (xs (j + 1)) (xs (j + 2))) (xs (j + 1)) (xs (j + 2)))))
    (kk : gLJ p l e s m below meth c b d0 E (sX8_foresee_s (sL_foresee_s σ (xs (j + 1)) (xs (j + 2))) (xs (j + 1)) (xs (j + 2))) (cells + 2) (slots + 12) 1622 (lvL E b j) []) : gLJ p l e s m below meth c b d0 E σ cells slots 1312 (lvL E b j) [] := by
  have S := gS_dr C.1 d0
  have hC := C.2.2.2.1.dr d0
  have hfl := C.2.2.2.2.2.2.2.1
  unfold gLJ at kk ⊢
  unfold lvL at kk ⊢
  refine g_aload_n S 3 dL_law_1312 rfl ?_
  refine g_aload_n S 4 dL_law_1313 rfl ?_
  refine g_iload S 0 dL_law_1314 rfl ?_
  refine g_const S dL_law_1316 (v := 1) rfl ?_
  refine g_iadd S dL_law_1317 ?_
  refine g_sld C S (q := j + 1) (nI_add j 1) (by omega) dL_law_1318 ?_
  refine g_aload_n S 4 dL_law_1319 rfl ?_
  refine g_iload S 0 dL_law_1320 rfl ?_
  refine g_const S dL_law_1322 (v := 2) rfl ?_
  refine g_iadd S dL_law_1323 ?_
  refine g_sld C S (q := j + 2) (nI_add j 2) (by omega) dL_law_1324 ?_
  refine g_aload_n S 1 dL_law_1325 rfl ?_
  refine g_calli (g_runSW S hC (As := [.ref (E.2.2 0), .int (xs (j + 1)), .int (xs (j + 2)), .ref (E.2.2 64)]) (rest := []) (kL_foresee l hfl E σ (xs (j + 1)) (xs (j + 2)) hok) (vx_cwSW 4 S.2.2.2.2 gL_law_L_foresee rfl rfl rfl (by decide +kernel) ⟨Nat.le_of_ble_eq_true rfl, Nat.le_of_ble_eq_true rfl⟩) rfl rfl (Nat.le_of_ble_eq_true rfl) dL_law_1326 ⟨hc, hs⟩) ?_
  refine g_istore S [(5, .int (sL_foresee_r σ (xs (j + 1)) (xs (j + 2)))), (4, .int (nI j)), (3, .ref (E.2.2 64)), (2, .ref (E.2.2 57)), (1, .ref (E.2.2 0)), (0, .ref b)] dL_law_1329 (by decide) rfl ?_
  refine g_aload_n S 3 dL_law_1331 rfl ?_
  refine g_aload_n S 5 dL_law_1332 rfl ?_
  refine g_iload S 1 dL_law_1333 rfl ?_
  refine g_const S dL_law_1335 (v := 1) rfl ?_
  refine g_iadd S dL_law_1336 ?_
  refine g_sld C S (q := j + 1) (nI_add j 1) (by omega) dL_law_1337 ?_
  refine g_aload_n S 5 dL_law_1338 rfl ?_
  refine g_iload S 1 dL_law_1339 rfl ?_
  refine g_const S dL_law_1341 (v := 2) rfl ?_
  refine g_iadd S dL_law_1342 ?_
  refine g_sld C S (q := j + 2) (nI_add j 2) (by omega) dL_law_1343 ?_
  refine g_calli (g_runV S hC (As := [.int (xs (j + 1)), .int (xs (j + 2))]) (rest := []) (k := 57) (by decide) rfl (by decide) rfl (kX8_foresee l E (sL_foresee_s σ (xs (j + 1)) (xs (j + 2))) (xs (j + 1)) (xs (j + 2)) hmk) (cwV 2 S.2.2.2.2 gL_law_X8_foresee rfl rfl rfl (by decide +kernel) ⟨Nat.le_of_ble_eq_true rfl, Nat.le_of_ble_eq_true rfl⟩) rfl rfl (Nat.le_of_ble_eq_true rfl) dL_law_1344 ⟨by show _ ≤ 672043; omega, by show _ ≤ 7079974; omega⟩) ?_
  refine g_istore S [(6, .int (sX8_foresee_r (sL_foresee_s σ (xs (j + 1)) (xs (j + 2))) (xs (j + 1)) (xs (j + 2)))), (5, .int (sL_foresee_r σ (xs (j + 1)) (xs (j + 2)))), (4, .int (nI j)), (3, .ref (E.2.2 64)), (2, .ref (E.2.2 57)), (1, .ref (E.2.2 0)), (0, .ref b)] dL_law_1347 (by decide) rfl ?_
  refine g_aload_n S 4 dL_law_1349 rfl ?_
  refine g_calli (g_runV S hC (As := []) (rest := []) (k := 57) (by decide) rfl (by decide) rfl (kX8_thrown l E (sX8_foresee_s (sL_foresee_s σ (xs (j + 1)) (xs (j + 2))) (xs (j + 1)) (xs (j + 2)))) (cwV 0 S.2.2.2.2 gL_law_X8_thrown rfl rfl rfl (by decide +kernel) ⟨Nat.le_of_ble_eq_true rfl, Nat.le_of_ble_eq_true rfl⟩) rfl rfl (Nat.le_of_ble_eq_true rfl) dL_law_1350 ⟨by show _ ≤ 672043; omega, by show _ ≤ 7079974; omega⟩) ?_
  refine g_iload S 1 dL_law_1353 rfl ?_
  refine g_icmp_eq S 1360 dL_law_1355 (by decide) (fun c1 => ?_) (fun c1 => absurd h1 c1)
  refine g_iload S 1 dL_law_1360 rfl ?_
  refine g_if_ne S 1377 dL_law_1362 (by decide) (fun c2 => ?_) (fun c2 => ?_)
  · skip
    refine g_goto S 1622 dL_law_1377 (by decide) ?_
    refine g_lvs [2, 3, 4, 5, 6] (lv' := [(4, .int (nI j)), (3, .ref (E.2.2 64)), (2, .ref (E.2.2 57)), (1, .ref (E.2.2 0)), (0, .ref b)]) rfl ?_
    exact kk
  · have h3 := h2 c2
    refine g_aload_n S 3 dL_law_1365 rfl ?_
    refine g_const S dL_law_1366 (v := 0) rfl ?_
    refine g_lald S hC rfl dL_law_1367 ?_
    refine g_iload S 0 dL_law_1368 rfl ?_
    refine g_i2l S dL_law_1370 ?_
    refine g_lcmp S dL_law_1371 ?_
    refine g_if_eq S 1377 dL_law_1372 (by decide) (fun c3 => ?_) (fun c3 => absurd (by rw [h3]; exact lg_cmp_self _) c3)
    refine g_goto S 1622 dL_law_1377 (by decide) ?_
    refine g_lvs [2, 3, 4, 5, 6] (lv' := [(4, .int (nI j)), (3, .ref (E.2.2 64)), (2, .ref (E.2.2 57)), (1, .ref (E.2.2 0)), (0, .ref b)]) rfl ?_
    exact kk
set_option maxRecDepth 100000 in
set_option maxHeartbeats 4000000 in
theorem law_ready (C : gLC p l s m meth c b L xs E) (hj : j + 3 < L) (hc : cells + 1 ≤ 672043) (hs : slots + 6 ≤ 7079974) (hok : tOK σ 1) (hmk : mOK (sL_ready_s σ (xs (j + 1)))) (h1 : (sX8_ready_s (sL_ready_s σ (xs (j + 1))) (xs (j + 1))).1 57 0 = (sL_ready_r σ (xs (j + 1)))) (h2 : (sL_ready_r σ (xs (j + 1))) = 0 → (sX8_ready_s (sL_ready_s σ (xs (j + 1))) (xs (j + 1))).2 0 = (Int32.toInt64 (sX8_ready_r (sL_ready_s σ (xs (j + 1))) (xs (j + 1)))))
    (kk : gLJ p l e s m below meth c b d0 E (sX8_ready_s (sL_ready_s σ (xs (j + 1))) (xs (j + 1))) (cells + 1) (slots + 6) 1622 (lvL E b j) []) : gLJ p l e s m below meth c b d0 E σ cells slots 1380 (lvL E b j) [] := by
  have S := gS_dr C.1 d0
  have hC := C.2.2.2.1.dr d0
  have hfl := C.2.2.2.2.2.2.2.1
  unfold gLJ at kk ⊢
  unfold lvL at kk ⊢
  refine g_aload_n S 3 dL_law_1380 rfl ?_
  refine g_aload_n S 4 dL_law_1381 rfl ?_
  refine g_iload S 0 dL_law_1382 rfl ?_
  refine g_const S dL_law_1384 (v := 1) rfl ?_
  refine g_iadd S dL_law_1385 ?_
  refine g_sld C S (q := j + 1) (nI_add j 1) (by omega) dL_law_1386 ?_
  refine g_aload_n S 1 dL_law_1387 rfl ?_
  refine g_calli (g_runSW S hC (As := [.ref (E.2.2 0), .int (xs (j + 1)), .ref (E.2.2 64)]) (rest := []) (kL_ready l hfl E σ (xs (j + 1)) hok) (vx_cwSW 3 S.2.2.2.2 gL_law_L_ready rfl rfl rfl (by decide +kernel) ⟨Nat.le_of_ble_eq_true rfl, Nat.le_of_ble_eq_true rfl⟩) rfl rfl (Nat.le_of_ble_eq_true rfl) dL_law_1388 ⟨hc, hs⟩) ?_
  refine g_istore S [(5, .int (sL_ready_r σ (xs (j + 1)))), (4, .int (nI j)), (3, .ref (E.2.2 64)), (2, .ref (E.2.2 57)), (1, .ref (E.2.2 0)), (0, .ref b)] dL_law_1391 (by decide) rfl ?_
  refine g_aload_n S 3 dL_law_1393 rfl ?_
  refine g_aload_n S 5 dL_law_1394 rfl ?_
  refine g_iload S 1 dL_law_1395 rfl ?_
  refine g_const S dL_law_1397 (v := 1) rfl ?_
  refine g_iadd S dL_law_1398 ?_
  refine g_sld C S (q := j + 1) (nI_add j 1) (by omega) dL_law_1399 ?_
  refine g_calli (g_runV S hC (As := [.int (xs (j + 1))]) (rest := []) (k := 57) (by decide) rfl (by decide) rfl (kX8_ready l E (sL_ready_s σ (xs (j + 1))) (xs (j + 1)) hmk) (cwV 1 S.2.2.2.2 gL_law_X8_ready rfl rfl rfl (by decide +kernel) ⟨Nat.le_of_ble_eq_true rfl, Nat.le_of_ble_eq_true rfl⟩) rfl rfl (Nat.le_of_ble_eq_true rfl) dL_law_1400 ⟨by show _ ≤ 672043; omega, by show _ ≤ 7079974; omega⟩) ?_
  refine g_istore S [(6, .int (sX8_ready_r (sL_ready_s σ (xs (j + 1))) (xs (j + 1)))), (5, .int (sL_ready_r σ (xs (j + 1)))), (4, .int (nI j)), (3, .ref (E.2.2 64)), (2, .ref (E.2.2 57)), (1, .ref (E.2.2 0)), (0, .ref b)] dL_law_1403 (by decide) rfl ?_
  refine g_aload_n S 4 dL_law_1405 rfl ?_
  refine g_calli (g_runV S hC (As := []) (rest := []) (k := 57) (by decide) rfl (by decide) rfl (kX8_thrown l E (sX8_ready_s (sL_ready_s σ (xs (j + 1))) (xs (j + 1)))) (cwV 0 S.2.2.2.2 gL_law_X8_thrown rfl rfl rfl (by decide +kernel) ⟨Nat.le_of_ble_eq_true rfl, Nat.le_of_ble_eq_true rfl⟩) rfl rfl (Nat.le_of_ble_eq_true rfl) dL_law_1406 ⟨by show _ ≤ 672043; omega, by show _ ≤ 7079974; omega⟩) ?_
  refine g_iload S 1 dL_law_1409 rfl ?_
  refine g_icmp_eq S 1416 dL_law_1411 (by decide) (fun c1 => ?_) (fun c1 => absurd h1 c1)
  refine g_iload S 1 dL_law_1416 rfl ?_
  refine g_if_ne S 1433 dL_law_1418 (by decide) (fun c2 => ?_) (fun c2 => ?_)
  · skip
    refine g_goto S 1622 dL_law_1433 (by decide) ?_
    refine g_lvs [2, 3, 4, 5, 6] (lv' := [(4, .int (nI j)), (3, .ref (E.2.2 64)), (2, .ref (E.2.2 57)), (1, .ref (E.2.2 0)), (0, .ref b)]) rfl ?_
    exact kk
  · have h3 := h2 c2
    refine g_aload_n S 3 dL_law_1421 rfl ?_
    refine g_const S dL_law_1422 (v := 0) rfl ?_
    refine g_lald S hC rfl dL_law_1423 ?_
    refine g_iload S 0 dL_law_1424 rfl ?_
    refine g_i2l S dL_law_1426 ?_
    refine g_lcmp S dL_law_1427 ?_
    refine g_if_eq S 1433 dL_law_1428 (by decide) (fun c3 => ?_) (fun c3 => absurd (by rw [h3]; exact lg_cmp_self _) c3)
    refine g_goto S 1622 dL_law_1433 (by decide) ?_
    refine g_lvs [2, 3, 4, 5, 6] (lv' := [(4, .int (nI j)), (3, .ref (E.2.2 64)), (2, .ref (E.2.2 57)), (1, .ref (E.2.2 0)), (0, .ref b)]) rfl ?_
    exact kk
set_option maxRecDepth 100000 in
set_option maxHeartbeats 4000000 in
theorem law_caught (C : gLC p l s m meth c b L xs E) (hj : j + 3 < L) (hc : cells + 3 ≤ 672043) (hs : slots + 18 ≤ 7079974) (hok : tOK σ 1) (hmk : mOK (sL_caught_s σ (xs (j + 1)) (xs (j + 2)))) (h1 : (sX8_caught_s (sL_caught_s σ (xs (j + 1)) (xs (j + 2))) (xs (j + 1)) (xs (j + 2))).1 57 0 = (sL_caught_r σ (xs (j + 1)) (xs (j + 2)))) (h2 : (sL_caught_r σ (xs (j + 1)) (xs (j + 2))) = 0 → (sX8_caught_s (sL_caught_s σ (xs (j + 1)) (xs (j + 2))) (xs (j + 1)) (xs (j + 2))).2 0 = (if (sX8_caught_r (sL_caught_s σ (xs (j + 1)) (xs (j + 2))) (xs (j + 1)) (xs (j + 2))) = 0 then (0 : Int64) else 1))
    (kk : gLJ p l e s m below meth c b d0 E (sX8_caught_s (sL_caught_s σ (xs (j + 1)) (xs (j + 2))) (xs (j + 1)) (xs (j + 2))) (cells + 3) (slots + 18) 1622 (lvL E b j) []) : gLJ p l e s m below meth c b d0 E σ cells slots 1436 (lvL E b j) [] := by
  have S := gS_dr C.1 d0
  have hC := C.2.2.2.1.dr d0
  have hfl := C.2.2.2.2.2.2.2.1
  unfold gLJ at kk ⊢
  unfold lvL at kk ⊢
  refine g_aload_n S 3 dL_law_1436 rfl ?_
  refine g_aload_n S 4 dL_law_1437 rfl ?_
  refine g_iload S 0 dL_law_1438 rfl ?_
  refine g_const S dL_law_1440 (v := 1) rfl ?_
  refine g_iadd S dL_law_1441 ?_
  refine g_sld C S (q := j + 1) (nI_add j 1) (by omega) dL_law_1442 ?_
  refine g_aload_n S 4 dL_law_1443 rfl ?_
  refine g_iload S 0 dL_law_1444 rfl ?_
  refine g_const S dL_law_1446 (v := 2) rfl ?_
  refine g_iadd S dL_law_1447 ?_
  refine g_sld C S (q := j + 2) (nI_add j 2) (by omega) dL_law_1448 ?_
  refine g_aload_n S 1 dL_law_1449 rfl ?_
  refine g_calli (g_runSW S hC (As := [.ref (E.2.2 0), .int (xs (j + 1)), .int (xs (j + 2)), .ref (E.2.2 64)]) (rest := []) (kL_caught l hfl E σ (xs (j + 1)) (xs (j + 2)) hok) (vx_cwSW 4 S.2.2.2.2 gL_law_L_caught rfl rfl rfl (by decide +kernel) ⟨Nat.le_of_ble_eq_true rfl, Nat.le_of_ble_eq_true rfl⟩) rfl rfl (Nat.le_of_ble_eq_true rfl) dL_law_1450 ⟨hc, hs⟩) ?_
  refine g_istore S [(5, .int (sL_caught_r σ (xs (j + 1)) (xs (j + 2)))), (4, .int (nI j)), (3, .ref (E.2.2 64)), (2, .ref (E.2.2 57)), (1, .ref (E.2.2 0)), (0, .ref b)] dL_law_1453 (by decide) rfl ?_
  refine g_aload_n S 3 dL_law_1455 rfl ?_
  refine g_aload_n S 5 dL_law_1456 rfl ?_
  refine g_iload S 1 dL_law_1457 rfl ?_
  refine g_const S dL_law_1459 (v := 1) rfl ?_
  refine g_iadd S dL_law_1460 ?_
  refine g_sld C S (q := j + 1) (nI_add j 1) (by omega) dL_law_1461 ?_
  refine g_aload_n S 5 dL_law_1462 rfl ?_
  refine g_iload S 1 dL_law_1463 rfl ?_
  refine g_const S dL_law_1465 (v := 2) rfl ?_
  refine g_iadd S dL_law_1466 ?_
  refine g_sld C S (q := j + 2) (nI_add j 2) (by omega) dL_law_1467 ?_
  refine g_calli (g_runV S hC (As := [.int (xs (j + 1)), .int (xs (j + 2))]) (rest := []) (k := 57) (by decide) rfl (by decide) rfl (kX8_caught l E (sL_caught_s σ (xs (j + 1)) (xs (j + 2))) (xs (j + 1)) (xs (j + 2)) hmk) (cwV 2 S.2.2.2.2 gL_law_X8_caught rfl rfl rfl (by decide +kernel) ⟨Nat.le_of_ble_eq_true rfl, Nat.le_of_ble_eq_true rfl⟩) rfl rfl (Nat.le_of_ble_eq_true rfl) dL_law_1468 ⟨by show _ ≤ 672043; omega, by show _ ≤ 7079974; omega⟩) ?_
  refine g_istore S [(6, .int (sX8_caught_r (sL_caught_s σ (xs (j + 1)) (xs (j + 2))) (xs (j + 1)) (xs (j + 2)))), (5, .int (sL_caught_r σ (xs (j + 1)) (xs (j + 2)))), (4, .int (nI j)), (3, .ref (E.2.2 64)), (2, .ref (E.2.2 57)), (1, .ref (E.2.2 0)), (0, .ref b)] dL_law_1471 (by decide) rfl ?_
  refine g_aload_n S 4 dL_law_1473 rfl ?_
  refine g_calli (g_runV S hC (As := []) (rest := []) (k := 57) (by decide) rfl (by decide) rfl (kX8_thrown l E (sX8_caught_s (sL_caught_s σ (xs (j + 1)) (xs (j + 2))) (xs (j + 1)) (xs (j + 2)))) (cwV 0 S.2.2.2.2 gL_law_X8_thrown rfl rfl rfl (by decide +kernel) ⟨Nat.le_of_ble_eq_true rfl, Nat.le_of_ble_eq_true rfl⟩) rfl rfl (Nat.le_of_ble_eq_true rfl) dL_law_1474 ⟨by show _ ≤ 672043; omega, by show _ ≤ 7079974; omega⟩) ?_
  refine g_iload S 1 dL_law_1477 rfl ?_
  refine g_icmp_eq S 1484 dL_law_1479 (by decide) (fun c1 => ?_) (fun c1 => absurd h1 c1)
  refine g_iload S 1 dL_law_1484 rfl ?_
  refine g_if_ne S 1508 dL_law_1486 (by decide) (fun c2 => ?_) (fun c2 => ?_)
  · skip
    refine g_goto S 1622 dL_law_1508 (by decide) ?_
    refine g_lvs [2, 3, 4, 5, 6] (lv' := [(4, .int (nI j)), (3, .ref (E.2.2 64)), (2, .ref (E.2.2 57)), (1, .ref (E.2.2 0)), (0, .ref b)]) rfl ?_
    exact kk
  · have h3 := h2 c2
    refine g_aload_n S 3 dL_law_1489 rfl ?_
    refine g_const S dL_law_1490 (v := 0) rfl ?_
    refine g_lald S hC rfl dL_law_1491 ?_
    refine g_iload S 0 dL_law_1492 rfl ?_
    refine g_if_eq S 1501 dL_law_1494 (by decide) (fun c4 => ?_) (fun c4 => ?_)
    · rw [if_pos c4] at h3
      refine g_lconst S dL_law_1501 (v := 0) rfl ?_
      refine g_lcmp S dL_law_1502 ?_
      refine g_if_eq S 1508 dL_law_1503 (by decide) (fun c3 => ?_) (fun c3 => absurd (by rw [h3]; exact lg_cmp_self _) c3)
      refine g_goto S 1622 dL_law_1508 (by decide) ?_
      refine g_lvs [2, 3, 4, 5, 6] (lv' := [(4, .int (nI j)), (3, .ref (E.2.2 64)), (2, .ref (E.2.2 57)), (1, .ref (E.2.2 0)), (0, .ref b)]) rfl ?_
      exact kk
    · rw [if_neg c4] at h3
      refine g_lconst S dL_law_1497 (v := 1) rfl ?_
      refine g_goto S 1502 dL_law_1498 (by decide) ?_
      refine g_lcmp S dL_law_1502 ?_
      refine g_if_eq S 1508 dL_law_1503 (by decide) (fun c3 => ?_) (fun c3 => absurd (by rw [h3]; exact lg_cmp_self _) c3)
      refine g_goto S 1622 dL_law_1508 (by decide) ?_
      refine g_lvs [2, 3, 4, 5, 6] (lv' := [(4, .int (nI j)), (3, .ref (E.2.2 64)), (2, .ref (E.2.2 57)), (1, .ref (E.2.2 0)), (0, .ref b)]) rfl ?_
      exact kk
set_option maxRecDepth 100000 in
set_option maxHeartbeats 4000000 in
theorem law_advise (C : gLC p l s m meth c b L xs E) (hj : j + 3 < L) (hc : cells + 1 ≤ 672043) (hs : slots + 6 ≤ 7079974) (hok : tOK σ 1) (hmk : mOK (sL_advise_s σ (xs (j + 1)))) (h1 : (sX8_advise_s (sL_advise_s σ (xs (j + 1))) (xs (j + 1))).1 57 0 = (sL_advise_r σ (xs (j + 1)))) (h2 : (sL_advise_r σ (xs (j + 1))) = 0 → (sX8_advise_s (sL_advise_s σ (xs (j + 1))) (xs (j + 1))).2 0 = (Int32.toInt64 (sX8_advise_r (sL_advise_s σ (xs (j + 1))) (xs (j + 1)))))
    (kk : gLJ p l e s m below meth c b d0 E (sX8_advise_s (sL_advise_s σ (xs (j + 1))) (xs (j + 1))) (cells + 1) (slots + 6) 1622 (lvL E b j) []) : gLJ p l e s m below meth c b d0 E σ cells slots 1511 (lvL E b j) [] := by
  have S := gS_dr C.1 d0
  have hC := C.2.2.2.1.dr d0
  have hfl := C.2.2.2.2.2.2.2.1
  unfold gLJ at kk ⊢
  unfold lvL at kk ⊢
  refine g_aload_n S 3 dL_law_1511 rfl ?_
  refine g_aload_n S 4 dL_law_1512 rfl ?_
  refine g_iload S 0 dL_law_1513 rfl ?_
  refine g_const S dL_law_1515 (v := 1) rfl ?_
  refine g_iadd S dL_law_1516 ?_
  refine g_sld C S (q := j + 1) (nI_add j 1) (by omega) dL_law_1517 ?_
  refine g_aload_n S 1 dL_law_1518 rfl ?_
  refine g_calli (g_runSW S hC (As := [.ref (E.2.2 0), .int (xs (j + 1)), .ref (E.2.2 64)]) (rest := []) (kL_advise l hfl E σ (xs (j + 1)) hok) (vx_cwSW 3 S.2.2.2.2 gL_law_L_advise rfl rfl rfl (by decide +kernel) ⟨Nat.le_of_ble_eq_true rfl, Nat.le_of_ble_eq_true rfl⟩) rfl rfl (Nat.le_of_ble_eq_true rfl) dL_law_1519 ⟨hc, hs⟩) ?_
  refine g_istore S [(5, .int (sL_advise_r σ (xs (j + 1)))), (4, .int (nI j)), (3, .ref (E.2.2 64)), (2, .ref (E.2.2 57)), (1, .ref (E.2.2 0)), (0, .ref b)] dL_law_1522 (by decide) rfl ?_
  refine g_aload_n S 3 dL_law_1524 rfl ?_
  refine g_aload_n S 5 dL_law_1525 rfl ?_
  refine g_iload S 1 dL_law_1526 rfl ?_
  refine g_const S dL_law_1528 (v := 1) rfl ?_
  refine g_iadd S dL_law_1529 ?_
  refine g_sld C S (q := j + 1) (nI_add j 1) (by omega) dL_law_1530 ?_
  refine g_calli (g_runV S hC (As := [.int (xs (j + 1))]) (rest := []) (k := 57) (by decide) rfl (by decide) rfl (kX8_advise l E (sL_advise_s σ (xs (j + 1))) (xs (j + 1)) hmk) (cwV 1 S.2.2.2.2 gL_law_X8_advise rfl rfl rfl (by decide +kernel) ⟨Nat.le_of_ble_eq_true rfl, Nat.le_of_ble_eq_true rfl⟩) rfl rfl (Nat.le_of_ble_eq_true rfl) dL_law_1531 ⟨by show _ ≤ 672043; omega, by show _ ≤ 7079974; omega⟩) ?_
  refine g_istore S [(6, .int (sX8_advise_r (sL_advise_s σ (xs (j + 1))) (xs (j + 1)))), (5, .int (sL_advise_r σ (xs (j + 1)))), (4, .int (nI j)), (3, .ref (E.2.2 64)), (2, .ref (E.2.2 57)), (1, .ref (E.2.2 0)), (0, .ref b)] dL_law_1534 (by decide) rfl ?_
  refine g_aload_n S 4 dL_law_1536 rfl ?_
  refine g_calli (g_runV S hC (As := []) (rest := []) (k := 57) (by decide) rfl (by decide) rfl (kX8_thrown l E (sX8_advise_s (sL_advise_s σ (xs (j + 1))) (xs (j + 1)))) (cwV 0 S.2.2.2.2 gL_law_X8_thrown rfl rfl rfl (by decide +kernel) ⟨Nat.le_of_ble_eq_true rfl, Nat.le_of_ble_eq_true rfl⟩) rfl rfl (Nat.le_of_ble_eq_true rfl) dL_law_1537 ⟨by show _ ≤ 672043; omega, by show _ ≤ 7079974; omega⟩) ?_
  refine g_iload S 1 dL_law_1540 rfl ?_
  refine g_icmp_eq S 1547 dL_law_1542 (by decide) (fun c1 => ?_) (fun c1 => absurd h1 c1)
  refine g_iload S 1 dL_law_1547 rfl ?_
  refine g_if_ne S 1564 dL_law_1549 (by decide) (fun c2 => ?_) (fun c2 => ?_)
  · skip
    refine g_goto S 1622 dL_law_1564 (by decide) ?_
    refine g_lvs [2, 3, 4, 5, 6] (lv' := [(4, .int (nI j)), (3, .ref (E.2.2 64)), (2, .ref (E.2.2 57)), (1, .ref (E.2.2 0)), (0, .ref b)]) rfl ?_
    exact kk
  · have h3 := h2 c2
    refine g_aload_n S 3 dL_law_1552 rfl ?_
    refine g_const S dL_law_1553 (v := 0) rfl ?_
    refine g_lald S hC rfl dL_law_1554 ?_
    refine g_iload S 0 dL_law_1555 rfl ?_
    refine g_i2l S dL_law_1557 ?_
    refine g_lcmp S dL_law_1558 ?_
    refine g_if_eq S 1564 dL_law_1559 (by decide) (fun c3 => ?_) (fun c3 => absurd (by rw [h3]; exact lg_cmp_self _) c3)
    refine g_goto S 1622 dL_law_1564 (by decide) ?_
    refine g_lvs [2, 3, 4, 5, 6] (lv' := [(4, .int (nI j)), (3, .ref (E.2.2 64)), (2, .ref (E.2.2 57)), (1, .ref (E.2.2 0)), (0, .ref b)]) rfl ?_
    exact kk
set_option maxRecDepth 100000 in
set_option maxHeartbeats 4000000 in
theorem law_digest (C : gLC p l s m meth c b L xs E) (hc : cells ≤ 672043) (hs : slots ≤ 7079974) (hok : tOK σ 1) (hmk : mOK σ) (h1 : sX7_digest_r σ = sX8_digest_r σ)
    (kk : gLJ p l e s m below meth c b d0 E (sX8_digest_s σ) cells slots 1622 (lvL E b j) []) : gLJ p l e s m below meth c b d0 E σ cells slots 1608 (lvL E b j) [] := by
  have S := gS_dr C.1 d0
  have hC := C.2.2.2.1.dr d0
  unfold gLJ at kk ⊢
  unfold lvL at kk ⊢
  refine g_aload_n S 3 dL_law_1608 rfl ?_
  refine g_calll (g_runV S hC (As := []) (rest := []) (k := 0) (by decide) rfl (by decide) rfl (kX7_digest l E σ hok) (cwV 0 S.2.2.2.2 gL_law_X7_digest rfl rfl rfl (by decide +kernel) ⟨Nat.le_of_ble_eq_true rfl, Nat.le_of_ble_eq_true rfl⟩) rfl rfl (Nat.le_of_ble_eq_true rfl) dL_law_1609 ⟨by show _ ≤ 672043; omega, by show _ ≤ 7079974; omega⟩) ?_
  refine g_aload_n S 2 dL_law_1612 rfl ?_
  refine g_calll (g_runV S hC (As := []) (rest := [.long (sX7_digest_r σ)]) (k := 57) (by decide) rfl (by decide) rfl (kX8_digest l E σ hmk) (cwV 0 S.2.2.2.2 gL_law_X8_digest rfl rfl rfl (by decide +kernel) ⟨Nat.le_of_ble_eq_true rfl, Nat.le_of_ble_eq_true rfl⟩) rfl rfl (Nat.le_of_ble_eq_true rfl) dL_law_1613 ⟨by show _ ≤ 672043; omega, by show _ ≤ 7079974; omega⟩) ?_
  refine g_lcmp S dL_law_1616 ?_
  refine g_if_eq S 1622 dL_law_1617 (by decide) (fun c3 => ?_) (fun c3 => absurd (by rw [h1]; exact lg_cmp_self _) c3)
  exact kk
end GLC
