set_option maxHeartbeats 4000000 in
set_option maxRecDepth 100000 in
theorem lc_0 {E : EV} {b L : Nat} {xs : Nat → Int32} (hL : L ≤ 2560) (C : CX E code RL 1000) (en : e_n E = 4) (hX : va_X b L xs (e_s E) (e_s E).heap) (hbl : b < (e_s E).heap.size) (hbA : ¬ e_A E b) {y3 : Int32} (hi0 : vp_in y3 L) (hi1 : vp_in (y3 + (1 : Int32)) L) (hi2 : vp_in (y3 + (2 : Int32)) L) (hi3 : vp_in (y3 + (3 : Int32)) L) (hi4 : vp_in (y3 + (4 : Int32)) L) (hK : ∀ σ, Ok σ → AT E 1082 [(0, .ref b), (1, .ref (e_q E 0)), (2, .ref (e_q E 30)), (3, .int y3)] [] σ) (σ : SS) (hOk : Ok σ) : AT E 176 [(0, .ref b), (1, .ref (e_q E 0)), (2, .ref (e_q E 30)), (3, .int y3)] [] σ := by
  refine at_aload_n C 1 dL_law_176 rfl ?_
  refine at_Vi C (As := []) (st := []) (b := 0) (ci := 6) (ct_X6_mast σ  hOk.1) mb_X6_mast ml_L_13 rfl rfl rfl (by decide) rfl (Nat.le_of_ble_eq_true rfl) dL_law_177 ?_
  rintro r1 u1 h1
  have j1 := pi_X6_mast h1
  refine at_pop C dL_law_180 rfl ?_
  refine at_aload_n C 2 dL_law_181 rfl ?_
  refine at_Vi C (As := []) (st := []) (b := 30) (ci := 7) (ct_X7_mast u1  j1) mb_X7_mast ml_L_17 rfl rfl rfl (by decide) rfl (Nat.le_of_ble_eq_true rfl) dL_law_182 ?_
  rintro r2 u2 h2
  have k2 := ok_mast hOk h1 h2
  refine at_pop C dL_law_185 rfl ?_
  refine at_goto C 1082 dL_law_186 (by decide) ?_
  exact hK u2 k2.1
set_option maxHeartbeats 4000000 in
set_option maxRecDepth 100000 in
theorem lc_1 {E : EV} {b L : Nat} {xs : Nat → Int32} (hL : L ≤ 2560) (C : CX E code RL 1000) (en : e_n E = 4) (hX : va_X b L xs (e_s E) (e_s E).heap) (hbl : b < (e_s E).heap.size) (hbA : ¬ e_A E b) {y3 : Int32} (hi0 : vp_in y3 L) (hi1 : vp_in (y3 + (1 : Int32)) L) (hi2 : vp_in (y3 + (2 : Int32)) L) (hi3 : vp_in (y3 + (3 : Int32)) L) (hi4 : vp_in (y3 + (4 : Int32)) L) (hK : ∀ σ, Ok σ → AT E 1082 [(0, .ref b), (1, .ref (e_q E 0)), (2, .ref (e_q E 30)), (3, .int y3)] [] σ) (σ : SS) (hOk : Ok σ) : AT E 189 [(0, .ref b), (1, .ref (e_q E 0)), (2, .ref (e_q E 30)), (3, .int y3)] [] σ := by
  refine at_aload_n C 1 dL_law_189 rfl ?_
  refine at_aload_n C 0 dL_law_190 rfl ?_
  refine at_iload_n C 3 dL_law_191 rfl ?_
  refine at_iconst C (1 : Int32) dL_law_192 (by decide) ?_
  refine at_iadd C dL_law_193 ?_
  refine at_sld C hX hbl hbA hi1 dL_law_194 ?_
  refine at_Vi C (As := [.int (xs (y3 + (1 : Int32)).toNatClampNeg)]) (st := []) (b := 0) (ci := 6) (ct_X6_channels σ (xs (y3 + (1 : Int32)).toNatClampNeg) hOk.1) mb_X6_channels ml_L_18 rfl rfl rfl (by decide) rfl (Nat.le_of_ble_eq_true rfl) dL_law_195 ?_
  rintro r1 u1 h1
  have j1 := pi_X6_channels h1
  refine at_pop C dL_law_198 rfl ?_
  refine at_aload_n C 2 dL_law_199 rfl ?_
  refine at_aload_n C 0 dL_law_200 rfl ?_
  refine at_iload_n C 3 dL_law_201 rfl ?_
  refine at_iconst C (1 : Int32) dL_law_202 (by decide) ?_
  refine at_iadd C dL_law_203 ?_
  refine at_sld C hX hbl hbA hi1 dL_law_204 ?_
  refine at_Vi C (As := [.int (xs (y3 + (1 : Int32)).toNatClampNeg)]) (st := []) (b := 30) (ci := 7) (ct_X7_channels u1 (xs (y3 + (1 : Int32)).toNatClampNeg) j1) mb_X7_channels ml_L_22 rfl rfl rfl (by decide) rfl (Nat.le_of_ble_eq_true rfl) dL_law_205 ?_
  rintro r2 u2 h2
  have k2 := ok_channels hOk h1 h2
  refine at_pop C dL_law_208 rfl ?_
  refine at_goto C 1082 dL_law_209 (by decide) ?_
  exact hK u2 k2.1
set_option maxHeartbeats 4000000 in
set_option maxRecDepth 100000 in
theorem lc_2 {E : EV} {b L : Nat} {xs : Nat → Int32} (hL : L ≤ 2560) (C : CX E code RL 1000) (en : e_n E = 4) (hX : va_X b L xs (e_s E) (e_s E).heap) (hbl : b < (e_s E).heap.size) (hbA : ¬ e_A E b) {y3 : Int32} (hi0 : vp_in y3 L) (hi1 : vp_in (y3 + (1 : Int32)) L) (hi2 : vp_in (y3 + (2 : Int32)) L) (hi3 : vp_in (y3 + (3 : Int32)) L) (hi4 : vp_in (y3 + (4 : Int32)) L) (hK : ∀ σ, Ok σ → AT E 1082 [(0, .ref b), (1, .ref (e_q E 0)), (2, .ref (e_q E 30)), (3, .int y3)] [] σ) (σ : SS) (hOk : Ok σ) : AT E 212 [(0, .ref b), (1, .ref (e_q E 0)), (2, .ref (e_q E 30)), (3, .int y3)] [] σ := by
  refine at_aload_n C 1 dL_law_212 rfl ?_
  refine at_aload_n C 0 dL_law_213 rfl ?_
  refine at_iload_n C 3 dL_law_214 rfl ?_
  refine at_iconst C (1 : Int32) dL_law_215 (by decide) ?_
  refine at_iadd C dL_law_216 ?_
  refine at_sld C hX hbl hbA hi1 dL_law_217 ?_
  refine at_aload_n C 0 dL_law_218 rfl ?_
  refine at_iload_n C 3 dL_law_219 rfl ?_
  refine at_iconst C (2 : Int32) dL_law_220 (by decide) ?_
  refine at_iadd C dL_law_221 ?_
  refine at_sld C hX hbl hbA hi2 dL_law_222 ?_
  refine at_aload_n C 0 dL_law_223 rfl ?_
  refine at_iload_n C 3 dL_law_224 rfl ?_
  refine at_iconst C (3 : Int32) dL_law_225 (by decide) ?_
  refine at_iadd C dL_law_226 ?_
  refine at_sld C hX hbl hbA hi3 dL_law_227 ?_
  refine at_Vi C (As := [.int (xs (y3 + (1 : Int32)).toNatClampNeg), .int (xs (y3 + (2 : Int32)).toNatClampNeg), .int (xs (y3 + (3 : Int32)).toNatClampNeg)]) (st := []) (b := 0) (ci := 6) (ct_X6_pair σ (xs (y3 + (1 : Int32)).toNatClampNeg) (xs (y3 + (2 : Int32)).toNatClampNeg) (xs (y3 + (3 : Int32)).toNatClampNeg) hOk.1) mb_X6_pair ml_L_23 rfl rfl rfl (by decide) rfl (Nat.le_of_ble_eq_true rfl) dL_law_228 ?_
  rintro r1 u1 h1
  have j1 := pi_X6_pair h1
  refine at_pop C dL_law_231 rfl ?_
  refine at_aload_n C 2 dL_law_232 rfl ?_
  refine at_aload_n C 0 dL_law_233 rfl ?_
  refine at_iload_n C 3 dL_law_234 rfl ?_
  refine at_iconst C (1 : Int32) dL_law_235 (by decide) ?_
  refine at_iadd C dL_law_236 ?_
  refine at_sld C hX hbl hbA hi1 dL_law_237 ?_
  refine at_aload_n C 0 dL_law_238 rfl ?_
  refine at_iload_n C 3 dL_law_239 rfl ?_
  refine at_iconst C (2 : Int32) dL_law_240 (by decide) ?_
  refine at_iadd C dL_law_241 ?_
  refine at_sld C hX hbl hbA hi2 dL_law_242 ?_
  refine at_aload_n C 0 dL_law_243 rfl ?_
  refine at_iload_n C 3 dL_law_244 rfl ?_
  refine at_iconst C (3 : Int32) dL_law_245 (by decide) ?_
  refine at_iadd C dL_law_246 ?_
  refine at_sld C hX hbl hbA hi3 dL_law_247 ?_
  refine at_Vi C (As := [.int (xs (y3 + (1 : Int32)).toNatClampNeg), .int (xs (y3 + (2 : Int32)).toNatClampNeg), .int (xs (y3 + (3 : Int32)).toNatClampNeg)]) (st := []) (b := 30) (ci := 7) (ct_X7_pair u1 (xs (y3 + (1 : Int32)).toNatClampNeg) (xs (y3 + (2 : Int32)).toNatClampNeg) (xs (y3 + (3 : Int32)).toNatClampNeg) j1) mb_X7_pair ml_L_27 rfl rfl rfl (by decide) rfl (Nat.le_of_ble_eq_true rfl) dL_law_248 ?_
  rintro r2 u2 h2
  have k2 := ok_pair hOk h1 h2
  refine at_pop C dL_law_251 rfl ?_
  refine at_goto C 1082 dL_law_252 (by decide) ?_
  exact hK u2 k2.1
set_option maxHeartbeats 4000000 in
set_option maxRecDepth 100000 in
theorem lc_3 {E : EV} {b L : Nat} {xs : Nat → Int32} (hL : L ≤ 2560) (C : CX E code RL 1000) (en : e_n E = 4) (hX : va_X b L xs (e_s E) (e_s E).heap) (hbl : b < (e_s E).heap.size) (hbA : ¬ e_A E b) {y3 : Int32} (hi0 : vp_in y3 L) (hi1 : vp_in (y3 + (1 : Int32)) L) (hi2 : vp_in (y3 + (2 : Int32)) L) (hi3 : vp_in (y3 + (3 : Int32)) L) (hi4 : vp_in (y3 + (4 : Int32)) L) (hK : ∀ σ, Ok σ → AT E 1082 [(0, .ref b), (1, .ref (e_q E 0)), (2, .ref (e_q E 30)), (3, .int y3)] [] σ) (σ : SS) (hOk : Ok σ) : AT E 255 [(0, .ref b), (1, .ref (e_q E 0)), (2, .ref (e_q E 30)), (3, .int y3)] [] σ := by
  refine at_aload_n C 1 dL_law_255 rfl ?_
  refine at_aload_n C 0 dL_law_256 rfl ?_
  refine at_iload_n C 3 dL_law_257 rfl ?_
  refine at_iconst C (1 : Int32) dL_law_258 (by decide) ?_
  refine at_iadd C dL_law_259 ?_
  refine at_sld C hX hbl hbA hi1 dL_law_260 ?_
  refine at_aload_n C 0 dL_law_261 rfl ?_
  refine at_iload_n C 3 dL_law_262 rfl ?_
  refine at_iconst C (2 : Int32) dL_law_263 (by decide) ?_
  refine at_iadd C dL_law_264 ?_
  refine at_sld C hX hbl hbA hi2 dL_law_265 ?_
  refine at_Vi C (As := [.int (xs (y3 + (1 : Int32)).toNatClampNeg), .int (xs (y3 + (2 : Int32)).toNatClampNeg)]) (st := []) (b := 0) (ci := 6) (ct_X6_bar σ (xs (y3 + (1 : Int32)).toNatClampNeg) (xs (y3 + (2 : Int32)).toNatClampNeg) hOk.1) mb_X6_bar ml_L_28 rfl rfl rfl (by decide) rfl (Nat.le_of_ble_eq_true rfl) dL_law_266 ?_
  rintro r1 u1 h1
  have j1 := pi_X6_bar h1
  refine at_pop C dL_law_269 rfl ?_
  refine at_aload_n C 2 dL_law_270 rfl ?_
  refine at_aload_n C 0 dL_law_271 rfl ?_
  refine at_iload_n C 3 dL_law_272 rfl ?_
  refine at_iconst C (1 : Int32) dL_law_273 (by decide) ?_
  refine at_iadd C dL_law_274 ?_
  refine at_sld C hX hbl hbA hi1 dL_law_275 ?_
  refine at_aload_n C 0 dL_law_276 rfl ?_
  refine at_iload_n C 3 dL_law_277 rfl ?_
  refine at_iconst C (2 : Int32) dL_law_278 (by decide) ?_
  refine at_iadd C dL_law_279 ?_
  refine at_sld C hX hbl hbA hi2 dL_law_280 ?_
  refine at_Vi C (As := [.int (xs (y3 + (1 : Int32)).toNatClampNeg), .int (xs (y3 + (2 : Int32)).toNatClampNeg)]) (st := []) (b := 30) (ci := 7) (ct_X7_bar u1 (xs (y3 + (1 : Int32)).toNatClampNeg) (xs (y3 + (2 : Int32)).toNatClampNeg) j1) mb_X7_bar ml_L_32 rfl rfl rfl (by decide) rfl (Nat.le_of_ble_eq_true rfl) dL_law_281 ?_
  rintro r2 u2 h2
  have k2 := ok_bar hOk h1 h2
  refine at_pop C dL_law_284 rfl ?_
  refine at_goto C 1082 dL_law_285 (by decide) ?_
  exact hK u2 k2
set_option maxHeartbeats 4000000 in
set_option maxRecDepth 100000 in
theorem lc_4 {E : EV} {b L : Nat} {xs : Nat → Int32} (hL : L ≤ 2560) (C : CX E code RL 1000) (en : e_n E = 4) (hX : va_X b L xs (e_s E) (e_s E).heap) (hbl : b < (e_s E).heap.size) (hbA : ¬ e_A E b) {y3 : Int32} (hi0 : vp_in y3 L) (hi1 : vp_in (y3 + (1 : Int32)) L) (hi2 : vp_in (y3 + (2 : Int32)) L) (hi3 : vp_in (y3 + (3 : Int32)) L) (hi4 : vp_in (y3 + (4 : Int32)) L) (hK : ∀ σ, Ok σ → AT E 1082 [(0, .ref b), (1, .ref (e_q E 0)), (2, .ref (e_q E 30)), (3, .int y3)] [] σ) (σ : SS) (hOk : Ok σ) : AT E 288 [(0, .ref b), (1, .ref (e_q E 0)), (2, .ref (e_q E 30)), (3, .int y3)] [] σ := by
  refine at_aload_n C 1 dL_law_288 rfl ?_
  refine at_aload_n C 0 dL_law_289 rfl ?_
  refine at_iload_n C 3 dL_law_290 rfl ?_
  refine at_iconst C (1 : Int32) dL_law_291 (by decide) ?_
  refine at_iadd C dL_law_292 ?_
  refine at_sld C hX hbl hbA hi1 dL_law_293 ?_
  refine at_Vi C (As := [.int (xs (y3 + (1 : Int32)).toNatClampNeg)]) (st := []) (b := 0) (ci := 6) (ct_X6_limit σ (xs (y3 + (1 : Int32)).toNatClampNeg) hOk.1) mb_X6_limit ml_L_33 rfl rfl rfl (by decide) rfl (Nat.le_of_ble_eq_true rfl) dL_law_294 ?_
  rintro r1 u1 h1
  have j1 := pi_X6_limit h1
  refine at_pop C dL_law_297 rfl ?_
  refine at_aload_n C 2 dL_law_298 rfl ?_
  refine at_aload_n C 0 dL_law_299 rfl ?_
  refine at_iload_n C 3 dL_law_300 rfl ?_
  refine at_iconst C (1 : Int32) dL_law_301 (by decide) ?_
  refine at_iadd C dL_law_302 ?_
  refine at_sld C hX hbl hbA hi1 dL_law_303 ?_
  refine at_Vi C (As := [.int (xs (y3 + (1 : Int32)).toNatClampNeg)]) (st := []) (b := 30) (ci := 7) (ct_X7_limit u1 (xs (y3 + (1 : Int32)).toNatClampNeg) j1) mb_X7_limit ml_L_36 rfl rfl rfl (by decide) rfl (Nat.le_of_ble_eq_true rfl) dL_law_304 ?_
  rintro r2 u2 h2
  have k2 := ok_limit hOk h1 h2
  refine at_pop C dL_law_307 rfl ?_
  refine at_goto C 1082 dL_law_308 (by decide) ?_
  exact hK u2 k2.1
set_option maxHeartbeats 4000000 in
set_option maxRecDepth 100000 in
theorem lc_5 {E : EV} {b L : Nat} {xs : Nat → Int32} (hL : L ≤ 2560) (C : CX E code RL 1000) (en : e_n E = 4) (hX : va_X b L xs (e_s E) (e_s E).heap) (hbl : b < (e_s E).heap.size) (hbA : ¬ e_A E b) {y3 : Int32} (hi0 : vp_in y3 L) (hi1 : vp_in (y3 + (1 : Int32)) L) (hi2 : vp_in (y3 + (2 : Int32)) L) (hi3 : vp_in (y3 + (3 : Int32)) L) (hi4 : vp_in (y3 + (4 : Int32)) L) (hK : ∀ σ, Ok σ → AT E 1082 [(0, .ref b), (1, .ref (e_q E 0)), (2, .ref (e_q E 30)), (3, .int y3)] [] σ) (σ : SS) (hOk : Ok σ) : AT E 311 [(0, .ref b), (1, .ref (e_q E 0)), (2, .ref (e_q E 30)), (3, .int y3)] [] σ := by
  refine at_aload_n C 1 dL_law_311 rfl ?_
  refine at_aload_n C 0 dL_law_312 rfl ?_
  refine at_iload_n C 3 dL_law_313 rfl ?_
  refine at_iconst C (1 : Int32) dL_law_314 (by decide) ?_
  refine at_iadd C dL_law_315 ?_
  refine at_sld C hX hbl hbA hi1 dL_law_316 ?_
  refine at_Vi C (As := [.int (xs (y3 + (1 : Int32)).toNatClampNeg)]) (st := []) (b := 0) (ci := 6) (ct_X6_fits σ (xs (y3 + (1 : Int32)).toNatClampNeg) hOk.1) mb_X6_fits ml_L_37 rfl rfl rfl (by decide) rfl (Nat.le_of_ble_eq_true rfl) dL_law_317 ?_
  rintro r1 u1 ⟨h1, -⟩
  have k1 := Ok.gd hOk h1
  refine at_pop C dL_law_320 rfl ?_
  refine at_aload_n C 2 dL_law_321 rfl ?_
  refine at_aload_n C 0 dL_law_322 rfl ?_
  refine at_iload_n C 3 dL_law_323 rfl ?_
  refine at_iconst C (1 : Int32) dL_law_324 (by decide) ?_
  refine at_iadd C dL_law_325 ?_
  refine at_sld C hX hbl hbA hi1 dL_law_326 ?_
  refine at_Vi C (As := [.int (xs (y3 + (1 : Int32)).toNatClampNeg)]) (st := []) (b := 30) (ci := 7) (ct_X7_fits u1 (xs (y3 + (1 : Int32)).toNatClampNeg) k1.1) mb_X7_fits ml_L_40 rfl rfl rfl (by decide) rfl (Nat.le_of_ble_eq_true rfl) dL_law_327 ?_
  rintro r2 u2 ⟨h2, -⟩
  have k2 := Ok.gd k1 h2
  refine at_pop C dL_law_330 rfl ?_
  refine at_goto C 1082 dL_law_331 (by decide) ?_
  exact hK u2 k2
set_option maxHeartbeats 4000000 in
set_option maxRecDepth 100000 in
theorem lc_6 {E : EV} {b L : Nat} {xs : Nat → Int32} (hL : L ≤ 2560) (C : CX E code RL 1000) (en : e_n E = 4) (hX : va_X b L xs (e_s E) (e_s E).heap) (hbl : b < (e_s E).heap.size) (hbA : ¬ e_A E b) {y3 : Int32} (hi0 : vp_in y3 L) (hi1 : vp_in (y3 + (1 : Int32)) L) (hi2 : vp_in (y3 + (2 : Int32)) L) (hi3 : vp_in (y3 + (3 : Int32)) L) (hi4 : vp_in (y3 + (4 : Int32)) L) (hK : ∀ σ, Ok σ → AT E 1082 [(0, .ref b), (1, .ref (e_q E 0)), (2, .ref (e_q E 30)), (3, .int y3)] [] σ) (σ : SS) (hOk : Ok σ) : AT E 334 [(0, .ref b), (1, .ref (e_q E 0)), (2, .ref (e_q E 30)), (3, .int y3)] [] σ := by
  refine at_aload_n C 1 dL_law_334 rfl ?_
  refine at_aload_n C 0 dL_law_335 rfl ?_
  refine at_iload_n C 3 dL_law_336 rfl ?_
  refine at_iconst C (1 : Int32) dL_law_337 (by decide) ?_
  refine at_iadd C dL_law_338 ?_
  refine at_sld C hX hbl hbA hi1 dL_law_339 ?_
  refine at_Vi C (As := [.int (xs (y3 + (1 : Int32)).toNatClampNeg)]) (st := []) (b := 0) (ci := 6) (ct_X6_tries σ (xs (y3 + (1 : Int32)).toNatClampNeg) hOk.1) mb_X6_tries ml_L_41 rfl rfl rfl (by decide) rfl (Nat.le_of_ble_eq_true rfl) dL_law_340 ?_
  rintro r1 u1 ⟨h1, -⟩
  have k1 := Ok.gd hOk h1
  refine at_pop C dL_law_343 rfl ?_
  refine at_aload_n C 2 dL_law_344 rfl ?_
  refine at_aload_n C 0 dL_law_345 rfl ?_
  refine at_iload_n C 3 dL_law_346 rfl ?_
  refine at_iconst C (1 : Int32) dL_law_347 (by decide) ?_
  refine at_iadd C dL_law_348 ?_
  refine at_sld C hX hbl hbA hi1 dL_law_349 ?_
  refine at_Vi C (As := [.int (xs (y3 + (1 : Int32)).toNatClampNeg)]) (st := []) (b := 30) (ci := 7) (ct_X7_tries u1 (xs (y3 + (1 : Int32)).toNatClampNeg) k1.1) mb_X7_tries ml_L_44 rfl rfl rfl (by decide) rfl (Nat.le_of_ble_eq_true rfl) dL_law_350 ?_
  rintro r2 u2 ⟨h2, -⟩
  have k2 := Ok.gd k1 h2
  refine at_pop C dL_law_353 rfl ?_
  refine at_goto C 1082 dL_law_354 (by decide) ?_
  exact hK u2 k2
set_option maxHeartbeats 4000000 in
set_option maxRecDepth 100000 in
theorem lc_7 {E : EV} {b L : Nat} {xs : Nat → Int32} (hL : L ≤ 2560) (C : CX E code RL 1000) (en : e_n E = 4) (hX : va_X b L xs (e_s E) (e_s E).heap) (hbl : b < (e_s E).heap.size) (hbA : ¬ e_A E b) {y3 : Int32} (hi0 : vp_in y3 L) (hi1 : vp_in (y3 + (1 : Int32)) L) (hi2 : vp_in (y3 + (2 : Int32)) L) (hi3 : vp_in (y3 + (3 : Int32)) L) (hi4 : vp_in (y3 + (4 : Int32)) L) (hK : ∀ σ, Ok σ → AT E 1082 [(0, .ref b), (1, .ref (e_q E 0)), (2, .ref (e_q E 30)), (3, .int y3)] [] σ) (σ : SS) (hOk : Ok σ) : AT E 357 [(0, .ref b), (1, .ref (e_q E 0)), (2, .ref (e_q E 30)), (3, .int y3)] [] σ := by
  refine at_aload_n C 1 dL_law_357 rfl ?_
  refine at_aload_n C 0 dL_law_358 rfl ?_
  refine at_iload_n C 3 dL_law_359 rfl ?_
  refine at_iconst C (1 : Int32) dL_law_360 (by decide) ?_
  refine at_iadd C dL_law_361 ?_
  refine at_sld C hX hbl hbA hi1 dL_law_362 ?_
  refine at_aload_n C 0 dL_law_363 rfl ?_
  refine at_iload_n C 3 dL_law_364 rfl ?_
  refine at_iconst C (2 : Int32) dL_law_365 (by decide) ?_
  refine at_iadd C dL_law_366 ?_
  refine at_sld C hX hbl hbA hi2 dL_law_367 ?_
  refine at_Vi C (As := [.int (xs (y3 + (1 : Int32)).toNatClampNeg), .int (xs (y3 + (2 : Int32)).toNatClampNeg)]) (st := []) (b := 0) (ci := 6) (ct_X6_packing σ (xs (y3 + (1 : Int32)).toNatClampNeg) (xs (y3 + (2 : Int32)).toNatClampNeg) hOk.1) mb_X6_packing ml_L_45 rfl rfl rfl (by decide) rfl (Nat.le_of_ble_eq_true rfl) dL_law_368 ?_
  rintro r1 u1 ⟨h1, -⟩
  have k1 := Ok.gd hOk h1
  refine at_pop C dL_law_371 rfl ?_
  refine at_aload_n C 2 dL_law_372 rfl ?_
  refine at_aload_n C 0 dL_law_373 rfl ?_
  refine at_iload_n C 3 dL_law_374 rfl ?_
  refine at_iconst C (1 : Int32) dL_law_375 (by decide) ?_
  refine at_iadd C dL_law_376 ?_
  refine at_sld C hX hbl hbA hi1 dL_law_377 ?_
  refine at_aload_n C 0 dL_law_378 rfl ?_
  refine at_iload_n C 3 dL_law_379 rfl ?_
  refine at_iconst C (2 : Int32) dL_law_380 (by decide) ?_
  refine at_iadd C dL_law_381 ?_
  refine at_sld C hX hbl hbA hi2 dL_law_382 ?_
  refine at_Vi C (As := [.int (xs (y3 + (1 : Int32)).toNatClampNeg), .int (xs (y3 + (2 : Int32)).toNatClampNeg)]) (st := []) (b := 30) (ci := 7) (ct_X7_packing u1 (xs (y3 + (1 : Int32)).toNatClampNeg) (xs (y3 + (2 : Int32)).toNatClampNeg) k1.1) mb_X7_packing ml_L_48 rfl rfl rfl (by decide) rfl (Nat.le_of_ble_eq_true rfl) dL_law_383 ?_
  rintro r2 u2 ⟨h2, -⟩
  have k2 := Ok.gd k1 h2
  refine at_pop C dL_law_386 rfl ?_
  refine at_goto C 1082 dL_law_387 (by decide) ?_
  exact hK u2 k2
set_option maxHeartbeats 4000000 in
set_option maxRecDepth 100000 in
theorem lc_8 {E : EV} {b L : Nat} {xs : Nat → Int32} (hL : L ≤ 2560) (C : CX E code RL 1000) (en : e_n E = 4) (hX : va_X b L xs (e_s E) (e_s E).heap) (hbl : b < (e_s E).heap.size) (hbA : ¬ e_A E b) {y3 : Int32} (hi0 : vp_in y3 L) (hi1 : vp_in (y3 + (1 : Int32)) L) (hi2 : vp_in (y3 + (2 : Int32)) L) (hi3 : vp_in (y3 + (3 : Int32)) L) (hi4 : vp_in (y3 + (4 : Int32)) L) (hK : ∀ σ, Ok σ → AT E 1082 [(0, .ref b), (1, .ref (e_q E 0)), (2, .ref (e_q E 30)), (3, .int y3)] [] σ) (σ : SS) (hOk : Ok σ) : AT E 390 [(0, .ref b), (1, .ref (e_q E 0)), (2, .ref (e_q E 30)), (3, .int y3)] [] σ := by
  refine at_aload_n C 1 dL_law_390 rfl ?_
  refine at_aload_n C 0 dL_law_391 rfl ?_
  refine at_iload_n C 3 dL_law_392 rfl ?_
  refine at_iconst C (1 : Int32) dL_law_393 (by decide) ?_
  refine at_iadd C dL_law_394 ?_
  refine at_sld C hX hbl hbA hi1 dL_law_395 ?_
  refine at_Vi C (As := [.int (xs (y3 + (1 : Int32)).toNatClampNeg)]) (st := []) (b := 0) (ci := 6) (ct_X6_reason σ (xs (y3 + (1 : Int32)).toNatClampNeg) hOk.1) mb_X6_reason ml_L_49 rfl rfl rfl (by decide) rfl (Nat.le_of_ble_eq_true rfl) dL_law_396 ?_
  rintro r1 u1 ⟨h1, -⟩
  have k1 := Ok.gd hOk h1
  refine at_pop C dL_law_399 rfl ?_
  refine at_aload_n C 2 dL_law_400 rfl ?_
  refine at_aload_n C 0 dL_law_401 rfl ?_
  refine at_iload_n C 3 dL_law_402 rfl ?_
  refine at_iconst C (1 : Int32) dL_law_403 (by decide) ?_
  refine at_iadd C dL_law_404 ?_
  refine at_sld C hX hbl hbA hi1 dL_law_405 ?_
  refine at_Vi C (As := [.int (xs (y3 + (1 : Int32)).toNatClampNeg)]) (st := []) (b := 30) (ci := 7) (ct_X7_reason u1 (xs (y3 + (1 : Int32)).toNatClampNeg) k1.1) mb_X7_reason ml_L_52 rfl rfl rfl (by decide) rfl (Nat.le_of_ble_eq_true rfl) dL_law_406 ?_
  rintro r2 u2 ⟨h2, -⟩
  have k2 := Ok.gd k1 h2
  refine at_pop C dL_law_409 rfl ?_
  refine at_goto C 1082 dL_law_410 (by decide) ?_
  exact hK u2 k2
set_option maxHeartbeats 4000000 in
set_option maxRecDepth 100000 in
theorem lc_9 {E : EV} {b L : Nat} {xs : Nat → Int32} (hL : L ≤ 2560) (C : CX E code RL 1000) (en : e_n E = 4) (hX : va_X b L xs (e_s E) (e_s E).heap) (hbl : b < (e_s E).heap.size) (hbA : ¬ e_A E b) {y3 : Int32} (hi0 : vp_in y3 L) (hi1 : vp_in (y3 + (1 : Int32)) L) (hi2 : vp_in (y3 + (2 : Int32)) L) (hi3 : vp_in (y3 + (3 : Int32)) L) (hi4 : vp_in (y3 + (4 : Int32)) L) (hK : ∀ σ, Ok σ → AT E 1082 [(0, .ref b), (1, .ref (e_q E 0)), (2, .ref (e_q E 30)), (3, .int y3)] [] σ) (σ : SS) (hOk : Ok σ) : AT E 413 [(0, .ref b), (1, .ref (e_q E 0)), (2, .ref (e_q E 30)), (3, .int y3)] [] σ := by
  refine at_aload_n C 1 dL_law_413 rfl ?_
  refine at_aload_n C 0 dL_law_414 rfl ?_
  refine at_iload_n C 3 dL_law_415 rfl ?_
  refine at_iconst C (1 : Int32) dL_law_416 (by decide) ?_
  refine at_iadd C dL_law_417 ?_
  refine at_sld C hX hbl hbA hi1 dL_law_418 ?_
  refine at_Vi C (As := [.int (xs (y3 + (1 : Int32)).toNatClampNeg)]) (st := []) (b := 0) (ci := 6) (ct_X6_spare σ (xs (y3 + (1 : Int32)).toNatClampNeg) hOk.1) mb_X6_spare ml_L_53 rfl rfl rfl (by decide) rfl (Nat.le_of_ble_eq_true rfl) dL_law_419 ?_
  rintro r1 u1 ⟨h1, -⟩
  have k1 := Ok.gd hOk h1
  refine at_pop C dL_law_422 rfl ?_
  refine at_aload_n C 2 dL_law_423 rfl ?_
  refine at_aload_n C 0 dL_law_424 rfl ?_
  refine at_iload_n C 3 dL_law_425 rfl ?_
  refine at_iconst C (1 : Int32) dL_law_426 (by decide) ?_
  refine at_iadd C dL_law_427 ?_
  refine at_sld C hX hbl hbA hi1 dL_law_428 ?_
  refine at_Vi C (As := [.int (xs (y3 + (1 : Int32)).toNatClampNeg)]) (st := []) (b := 30) (ci := 7) (ct_X7_spare u1 (xs (y3 + (1 : Int32)).toNatClampNeg) k1.1) mb_X7_spare ml_L_56 rfl rfl rfl (by decide) rfl (Nat.le_of_ble_eq_true rfl) dL_law_429 ?_
  rintro r2 u2 ⟨h2, -⟩
  have k2 := Ok.gd k1 h2
  refine at_pop C dL_law_432 rfl ?_
  refine at_goto C 1082 dL_law_433 (by decide) ?_
  exact hK u2 k2
set_option maxHeartbeats 4000000 in
set_option maxRecDepth 100000 in
theorem lc_10 {E : EV} {b L : Nat} {xs : Nat → Int32} (hL : L ≤ 2560) (C : CX E code RL 1000) (en : e_n E = 4) (hX : va_X b L xs (e_s E) (e_s E).heap) (hbl : b < (e_s E).heap.size) (hbA : ¬ e_A E b) {y3 : Int32} (hi0 : vp_in y3 L) (hi1 : vp_in (y3 + (1 : Int32)) L) (hi2 : vp_in (y3 + (2 : Int32)) L) (hi3 : vp_in (y3 + (3 : Int32)) L) (hi4 : vp_in (y3 + (4 : Int32)) L) (hK : ∀ σ, Ok σ → AT E 1082 [(0, .ref b), (1, .ref (e_q E 0)), (2, .ref (e_q E 30)), (3, .int y3)] [] σ) (σ : SS) (hOk : Ok σ) : AT E 436 [(0, .ref b), (1, .ref (e_q E 0)), (2, .ref (e_q E 30)), (3, .int y3)] [] σ := by
  refine at_aload_n C 1 dL_law_436 rfl ?_
  refine at_aload_n C 0 dL_law_437 rfl ?_
  refine at_iload_n C 3 dL_law_438 rfl ?_
  refine at_iconst C (1 : Int32) dL_law_439 (by decide) ?_
  refine at_iadd C dL_law_440 ?_
  refine at_sld C hX hbl hbA hi1 dL_law_441 ?_
  refine at_aload_n C 0 dL_law_442 rfl ?_
  refine at_iload_n C 3 dL_law_443 rfl ?_
  refine at_iconst C (2 : Int32) dL_law_444 (by decide) ?_
  refine at_iadd C dL_law_445 ?_
  refine at_sld C hX hbl hbA hi2 dL_law_446 ?_
  refine at_aload_n C 0 dL_law_447 rfl ?_
  refine at_iload_n C 3 dL_law_448 rfl ?_
  refine at_iconst C (3 : Int32) dL_law_449 (by decide) ?_
  refine at_iadd C dL_law_450 ?_
  refine at_sld C hX hbl hbA hi3 dL_law_451 ?_
  refine at_Vi C (As := [.int (xs (y3 + (1 : Int32)).toNatClampNeg), .int (xs (y3 + (2 : Int32)).toNatClampNeg), .int (xs (y3 + (3 : Int32)).toNatClampNeg)]) (st := []) (b := 0) (ci := 6) (ct_X6_old σ (xs (y3 + (1 : Int32)).toNatClampNeg) (xs (y3 + (2 : Int32)).toNatClampNeg) (xs (y3 + (3 : Int32)).toNatClampNeg) hOk.1) mb_X6_old ml_L_57 rfl rfl rfl (by decide) rfl (Nat.le_of_ble_eq_true rfl) dL_law_452 ?_
  rintro r1 u1 h1
  have j1 := pi_X6_old h1
  refine at_pop C dL_law_455 rfl ?_
  refine at_aload_n C 2 dL_law_456 rfl ?_
  refine at_aload_n C 0 dL_law_457 rfl ?_
  refine at_iload_n C 3 dL_law_458 rfl ?_
  refine at_iconst C (1 : Int32) dL_law_459 (by decide) ?_
  refine at_iadd C dL_law_460 ?_
  refine at_sld C hX hbl hbA hi1 dL_law_461 ?_
  refine at_aload_n C 0 dL_law_462 rfl ?_
  refine at_iload_n C 3 dL_law_463 rfl ?_
  refine at_iconst C (2 : Int32) dL_law_464 (by decide) ?_
  refine at_iadd C dL_law_465 ?_
  refine at_sld C hX hbl hbA hi2 dL_law_466 ?_
  refine at_aload_n C 0 dL_law_467 rfl ?_
  refine at_iload_n C 3 dL_law_468 rfl ?_
  refine at_iconst C (3 : Int32) dL_law_469 (by decide) ?_
  refine at_iadd C dL_law_470 ?_
  refine at_sld C hX hbl hbA hi3 dL_law_471 ?_
  refine at_Vi C (As := [.int (xs (y3 + (1 : Int32)).toNatClampNeg), .int (xs (y3 + (2 : Int32)).toNatClampNeg), .int (xs (y3 + (3 : Int32)).toNatClampNeg)]) (st := []) (b := 30) (ci := 7) (ct_X7_old u1 (xs (y3 + (1 : Int32)).toNatClampNeg) (xs (y3 + (2 : Int32)).toNatClampNeg) (xs (y3 + (3 : Int32)).toNatClampNeg) j1) mb_X7_old ml_L_60 rfl rfl rfl (by decide) rfl (Nat.le_of_ble_eq_true rfl) dL_law_472 ?_
  rintro r2 u2 h2
  have k2 := ok_old hOk h1 h2
  refine at_pop C dL_law_475 rfl ?_
  refine at_goto C 1082 dL_law_476 (by decide) ?_
  exact hK u2 k2.1
set_option maxHeartbeats 4000000 in
set_option maxRecDepth 100000 in
theorem lc_11 {E : EV} {b L : Nat} {xs : Nat → Int32} (hL : L ≤ 2560) (C : CX E code RL 1000) (en : e_n E = 4) (hX : va_X b L xs (e_s E) (e_s E).heap) (hbl : b < (e_s E).heap.size) (hbA : ¬ e_A E b) {y3 : Int32} (hi0 : vp_in y3 L) (hi1 : vp_in (y3 + (1 : Int32)) L) (hi2 : vp_in (y3 + (2 : Int32)) L) (hi3 : vp_in (y3 + (3 : Int32)) L) (hi4 : vp_in (y3 + (4 : Int32)) L) (hK : ∀ σ, Ok σ → AT E 1082 [(0, .ref b), (1, .ref (e_q E 0)), (2, .ref (e_q E 30)), (3, .int y3)] [] σ) (σ : SS) (hOk : Ok σ) : AT E 479 [(0, .ref b), (1, .ref (e_q E 0)), (2, .ref (e_q E 30)), (3, .int y3)] [] σ := by
  refine at_aload_n C 1 dL_law_479 rfl ?_
  refine at_aload_n C 0 dL_law_480 rfl ?_
  refine at_iload_n C 3 dL_law_481 rfl ?_
  refine at_iconst C (1 : Int32) dL_law_482 (by decide) ?_
  refine at_iadd C dL_law_483 ?_
  refine at_sld C hX hbl hbA hi1 dL_law_484 ?_
  refine at_aload_n C 0 dL_law_485 rfl ?_
  refine at_iload_n C 3 dL_law_486 rfl ?_
  refine at_iconst C (2 : Int32) dL_law_487 (by decide) ?_
  refine at_iadd C dL_law_488 ?_
  refine at_sld C hX hbl hbA hi2 dL_law_489 ?_
  refine at_Vi C (As := [.int (xs (y3 + (1 : Int32)).toNatClampNeg), .int (xs (y3 + (2 : Int32)).toNatClampNeg)]) (st := []) (b := 0) (ci := 6) (ct_X6_clock σ (xs (y3 + (1 : Int32)).toNatClampNeg) (xs (y3 + (2 : Int32)).toNatClampNeg) hOk.1) mb_X6_clock ml_L_61 rfl rfl rfl (by decide) rfl (Nat.le_of_ble_eq_true rfl) dL_law_490 ?_
  rintro r1 u1 h1
  have j1 := pi_X6_clock h1
  refine at_pop C dL_law_493 rfl ?_
  refine at_aload_n C 2 dL_law_494 rfl ?_
  refine at_aload_n C 0 dL_law_495 rfl ?_
  refine at_iload_n C 3 dL_law_496 rfl ?_
  refine at_iconst C (1 : Int32) dL_law_497 (by decide) ?_
  refine at_iadd C dL_law_498 ?_
  refine at_sld C hX hbl hbA hi1 dL_law_499 ?_
  refine at_aload_n C 0 dL_law_500 rfl ?_
  refine at_iload_n C 3 dL_law_501 rfl ?_
  refine at_iconst C (2 : Int32) dL_law_502 (by decide) ?_
  refine at_iadd C dL_law_503 ?_
  refine at_sld C hX hbl hbA hi2 dL_law_504 ?_
  refine at_Vi C (As := [.int (xs (y3 + (1 : Int32)).toNatClampNeg), .int (xs (y3 + (2 : Int32)).toNatClampNeg)]) (st := []) (b := 30) (ci := 7) (ct_X7_clock u1 (xs (y3 + (1 : Int32)).toNatClampNeg) (xs (y3 + (2 : Int32)).toNatClampNeg) j1) mb_X7_clock ml_L_64 rfl rfl rfl (by decide) rfl (Nat.le_of_ble_eq_true rfl) dL_law_505 ?_
  rintro r2 u2 h2
  have k2 := ok_clock hOk h1 h2
  refine at_pop C dL_law_508 rfl ?_
  refine at_goto C 1082 dL_law_509 (by decide) ?_
  exact hK u2 k2.1
set_option maxHeartbeats 4000000 in
set_option maxRecDepth 100000 in
theorem lc_12 {E : EV} {b L : Nat} {xs : Nat → Int32} (hL : L ≤ 2560) (C : CX E code RL 1000) (en : e_n E = 4) (hX : va_X b L xs (e_s E) (e_s E).heap) (hbl : b < (e_s E).heap.size) (hbA : ¬ e_A E b) {y3 : Int32} (hi0 : vp_in y3 L) (hi1 : vp_in (y3 + (1 : Int32)) L) (hi2 : vp_in (y3 + (2 : Int32)) L) (hi3 : vp_in (y3 + (3 : Int32)) L) (hi4 : vp_in (y3 + (4 : Int32)) L) (hK : ∀ σ, Ok σ → AT E 1082 [(0, .ref b), (1, .ref (e_q E 0)), (2, .ref (e_q E 30)), (3, .int y3)] [] σ) (σ : SS) (hOk : Ok σ) : AT E 512 [(0, .ref b), (1, .ref (e_q E 0)), (2, .ref (e_q E 30)), (3, .int y3)] [] σ := by
  refine at_aload_n C 1 dL_law_512 rfl ?_
  refine at_aload_n C 0 dL_law_513 rfl ?_
  refine at_iload_n C 3 dL_law_514 rfl ?_
  refine at_iconst C (1 : Int32) dL_law_515 (by decide) ?_
  refine at_iadd C dL_law_516 ?_
  refine at_sld C hX hbl hbA hi1 dL_law_517 ?_
  refine at_Vi C (As := [.int (xs (y3 + (1 : Int32)).toNatClampNeg)]) (st := []) (b := 0) (ci := 6) (ct_X6_run σ (xs (y3 + (1 : Int32)).toNatClampNeg) hOk.1) mb_X6_run ml_L_65 rfl rfl rfl (by decide) rfl (Nat.le_of_ble_eq_true rfl) dL_law_518 ?_
  rintro r1 u1 ⟨h1, -⟩
  have k1 := Ok.gd hOk h1
  refine at_pop C dL_law_521 rfl ?_
  refine at_aload_n C 2 dL_law_522 rfl ?_
  refine at_aload_n C 0 dL_law_523 rfl ?_
  refine at_iload_n C 3 dL_law_524 rfl ?_
  refine at_iconst C (1 : Int32) dL_law_525 (by decide) ?_
  refine at_iadd C dL_law_526 ?_
  refine at_sld C hX hbl hbA hi1 dL_law_527 ?_
  refine at_Vi C (As := [.int (xs (y3 + (1 : Int32)).toNatClampNeg)]) (st := []) (b := 30) (ci := 7) (ct_X7_run u1 (xs (y3 + (1 : Int32)).toNatClampNeg) k1.1) mb_X7_run ml_L_68 rfl rfl rfl (by decide) rfl (Nat.le_of_ble_eq_true rfl) dL_law_528 ?_
  rintro r2 u2 ⟨h2, -⟩
  have k2 := Ok.gd k1 h2
  refine at_pop C dL_law_531 rfl ?_
  refine at_goto C 1082 dL_law_532 (by decide) ?_
  exact hK u2 k2
set_option maxHeartbeats 4000000 in
set_option maxRecDepth 100000 in
theorem lc_13 {E : EV} {b L : Nat} {xs : Nat → Int32} (hL : L ≤ 2560) (C : CX E code RL 1000) (en : e_n E = 4) (hX : va_X b L xs (e_s E) (e_s E).heap) (hbl : b < (e_s E).heap.size) (hbA : ¬ e_A E b) {y3 : Int32} (hi0 : vp_in y3 L) (hi1 : vp_in (y3 + (1 : Int32)) L) (hi2 : vp_in (y3 + (2 : Int32)) L) (hi3 : vp_in (y3 + (3 : Int32)) L) (hi4 : vp_in (y3 + (4 : Int32)) L) (hK : ∀ σ, Ok σ → AT E 1082 [(0, .ref b), (1, .ref (e_q E 0)), (2, .ref (e_q E 30)), (3, .int y3)] [] σ) (σ : SS) (hOk : Ok σ) : AT E 535 [(0, .ref b), (1, .ref (e_q E 0)), (2, .ref (e_q E 30)), (3, .int y3)] [] σ := by
  refine at_aload_n C 1 dL_law_535 rfl ?_
  refine at_aload_n C 0 dL_law_536 rfl ?_
  refine at_iload_n C 3 dL_law_537 rfl ?_
  refine at_iconst C (1 : Int32) dL_law_538 (by decide) ?_
  refine at_iadd C dL_law_539 ?_
  refine at_sld C hX hbl hbA hi1 dL_law_540 ?_
  refine at_Vi C (As := [.int (xs (y3 + (1 : Int32)).toNatClampNeg)]) (st := []) (b := 0) (ci := 6) (ct_X6_paid σ (xs (y3 + (1 : Int32)).toNatClampNeg) hOk.1) mb_X6_paid ml_L_69 rfl rfl rfl (by decide) rfl (Nat.le_of_ble_eq_true rfl) dL_law_541 ?_
  rintro r1 u1 ⟨h1, -⟩
  have k1 := Ok.gd hOk h1
  refine at_pop C dL_law_544 rfl ?_
  refine at_aload_n C 2 dL_law_545 rfl ?_
  refine at_aload_n C 0 dL_law_546 rfl ?_
  refine at_iload_n C 3 dL_law_547 rfl ?_
  refine at_iconst C (1 : Int32) dL_law_548 (by decide) ?_
  refine at_iadd C dL_law_549 ?_
  refine at_sld C hX hbl hbA hi1 dL_law_550 ?_
  refine at_Vi C (As := [.int (xs (y3 + (1 : Int32)).toNatClampNeg)]) (st := []) (b := 30) (ci := 7) (ct_X7_paid u1 (xs (y3 + (1 : Int32)).toNatClampNeg) k1.1) mb_X7_paid ml_L_72 rfl rfl rfl (by decide) rfl (Nat.le_of_ble_eq_true rfl) dL_law_551 ?_
  rintro r2 u2 ⟨h2, -⟩
  have k2 := Ok.gd k1 h2
  refine at_pop C dL_law_554 rfl ?_
  refine at_goto C 1082 dL_law_555 (by decide) ?_
  exact hK u2 k2
set_option maxHeartbeats 4000000 in
set_option maxRecDepth 100000 in
theorem lc_14 {E : EV} {b L : Nat} {xs : Nat → Int32} (hL : L ≤ 2560) (C : CX E code RL 1000) (en : e_n E = 4) (hX : va_X b L xs (e_s E) (e_s E).heap) (hbl : b < (e_s E).heap.size) (hbA : ¬ e_A E b) {y3 : Int32} (hi0 : vp_in y3 L) (hi1 : vp_in (y3 + (1 : Int32)) L) (hi2 : vp_in (y3 + (2 : Int32)) L) (hi3 : vp_in (y3 + (3 : Int32)) L) (hi4 : vp_in (y3 + (4 : Int32)) L) (hK : ∀ σ, Ok σ → AT E 1082 [(0, .ref b), (1, .ref (e_q E 0)), (2, .ref (e_q E 30)), (3, .int y3)] [] σ) (σ : SS) (hOk : Ok σ) : AT E 558 [(0, .ref b), (1, .ref (e_q E 0)), (2, .ref (e_q E 30)), (3, .int y3)] [] σ := by
  refine at_aload_n C 1 dL_law_558 rfl ?_
  refine at_aload_n C 0 dL_law_559 rfl ?_
  refine at_iload_n C 3 dL_law_560 rfl ?_
  refine at_iconst C (1 : Int32) dL_law_561 (by decide) ?_
  refine at_iadd C dL_law_562 ?_
  refine at_sld C hX hbl hbA hi1 dL_law_563 ?_
  refine at_Vi C (As := [.int (xs (y3 + (1 : Int32)).toNatClampNeg)]) (st := []) (b := 0) (ci := 6) (ct_X6_round σ (xs (y3 + (1 : Int32)).toNatClampNeg) hOk.1) mb_X6_round ml_L_73 rfl rfl rfl (by decide) rfl (Nat.le_of_ble_eq_true rfl) dL_law_564 ?_
  rintro r1 u1 ⟨h1, -⟩
  have k1 := Ok.gd hOk h1
  refine at_pop C dL_law_567 rfl ?_
  refine at_aload_n C 2 dL_law_568 rfl ?_
  refine at_aload_n C 0 dL_law_569 rfl ?_
  refine at_iload_n C 3 dL_law_570 rfl ?_
  refine at_iconst C (1 : Int32) dL_law_571 (by decide) ?_
  refine at_iadd C dL_law_572 ?_
  refine at_sld C hX hbl hbA hi1 dL_law_573 ?_
  refine at_Vi C (As := [.int (xs (y3 + (1 : Int32)).toNatClampNeg)]) (st := []) (b := 30) (ci := 7) (ct_X7_round u1 (xs (y3 + (1 : Int32)).toNatClampNeg) k1.1) mb_X7_round ml_L_76 rfl rfl rfl (by decide) rfl (Nat.le_of_ble_eq_true rfl) dL_law_574 ?_
  rintro r2 u2 ⟨h2, -⟩
  have k2 := Ok.gd k1 h2
  refine at_pop C dL_law_577 rfl ?_
  refine at_goto C 1082 dL_law_578 (by decide) ?_
  exact hK u2 k2
set_option maxHeartbeats 4000000 in
set_option maxRecDepth 100000 in
theorem lc_15 {E : EV} {b L : Nat} {xs : Nat → Int32} (hL : L ≤ 2560) (C : CX E code RL 1000) (en : e_n E = 4) (hX : va_X b L xs (e_s E) (e_s E).heap) (hbl : b < (e_s E).heap.size) (hbA : ¬ e_A E b) {y3 : Int32} (hi0 : vp_in y3 L) (hi1 : vp_in (y3 + (1 : Int32)) L) (hi2 : vp_in (y3 + (2 : Int32)) L) (hi3 : vp_in (y3 + (3 : Int32)) L) (hi4 : vp_in (y3 + (4 : Int32)) L) (hK : ∀ σ, Ok σ → AT E 1082 [(0, .ref b), (1, .ref (e_q E 0)), (2, .ref (e_q E 30)), (3, .int y3)] [] σ) (σ : SS) (hOk : Ok σ) : AT E 581 [(0, .ref b), (1, .ref (e_q E 0)), (2, .ref (e_q E 30)), (3, .int y3)] [] σ := by
  refine at_aload_n C 1 dL_law_581 rfl ?_
  refine at_aload_n C 0 dL_law_582 rfl ?_
  refine at_iload_n C 3 dL_law_583 rfl ?_
  refine at_iconst C (1 : Int32) dL_law_584 (by decide) ?_
  refine at_iadd C dL_law_585 ?_
  refine at_sld C hX hbl hbA hi1 dL_law_586 ?_
  refine at_aload_n C 0 dL_law_587 rfl ?_
  refine at_iload_n C 3 dL_law_588 rfl ?_
  refine at_iconst C (2 : Int32) dL_law_589 (by decide) ?_
  refine at_iadd C dL_law_590 ?_
  refine at_sld C hX hbl hbA hi2 dL_law_591 ?_
  refine at_Vi C (As := [.int (xs (y3 + (1 : Int32)).toNatClampNeg), .int (xs (y3 + (2 : Int32)).toNatClampNeg)]) (st := []) (b := 0) (ci := 6) (ct_X6_gain σ (xs (y3 + (1 : Int32)).toNatClampNeg) (xs (y3 + (2 : Int32)).toNatClampNeg) hOk.1) mb_X6_gain ml_L_77 rfl rfl rfl (by decide) rfl (Nat.le_of_ble_eq_true rfl) dL_law_592 ?_
  rintro r1 u1 ⟨h1, -⟩
  have k1 := Ok.gd hOk h1
  refine at_pop C dL_law_595 rfl ?_
  refine at_aload_n C 2 dL_law_596 rfl ?_
  refine at_aload_n C 0 dL_law_597 rfl ?_
  refine at_iload_n C 3 dL_law_598 rfl ?_
  refine at_iconst C (1 : Int32) dL_law_599 (by decide) ?_
  refine at_iadd C dL_law_600 ?_
  refine at_sld C hX hbl hbA hi1 dL_law_601 ?_
  refine at_aload_n C 0 dL_law_602 rfl ?_
  refine at_iload_n C 3 dL_law_603 rfl ?_
  refine at_iconst C (2 : Int32) dL_law_604 (by decide) ?_
  refine at_iadd C dL_law_605 ?_
  refine at_sld C hX hbl hbA hi2 dL_law_606 ?_
  refine at_Vi C (As := [.int (xs (y3 + (1 : Int32)).toNatClampNeg), .int (xs (y3 + (2 : Int32)).toNatClampNeg)]) (st := []) (b := 30) (ci := 7) (ct_X7_gain u1 (xs (y3 + (1 : Int32)).toNatClampNeg) (xs (y3 + (2 : Int32)).toNatClampNeg) k1.1) mb_X7_gain ml_L_80 rfl rfl rfl (by decide) rfl (Nat.le_of_ble_eq_true rfl) dL_law_607 ?_
  rintro r2 u2 ⟨h2, -⟩
  have k2 := Ok.gd k1 h2
  refine at_pop C dL_law_610 rfl ?_
  refine at_goto C 1082 dL_law_611 (by decide) ?_
  exact hK u2 k2
set_option maxHeartbeats 4000000 in
set_option maxRecDepth 100000 in
theorem lc_16 {E : EV} {b L : Nat} {xs : Nat → Int32} (hL : L ≤ 2560) (C : CX E code RL 1000) (en : e_n E = 4) (hX : va_X b L xs (e_s E) (e_s E).heap) (hbl : b < (e_s E).heap.size) (hbA : ¬ e_A E b) {y3 : Int32} (hi0 : vp_in y3 L) (hi1 : vp_in (y3 + (1 : Int32)) L) (hi2 : vp_in (y3 + (2 : Int32)) L) (hi3 : vp_in (y3 + (3 : Int32)) L) (hi4 : vp_in (y3 + (4 : Int32)) L) (hK : ∀ σ, Ok σ → AT E 1082 [(0, .ref b), (1, .ref (e_q E 0)), (2, .ref (e_q E 30)), (3, .int y3)] [] σ) (σ : SS) (hOk : Ok σ) : AT E 614 [(0, .ref b), (1, .ref (e_q E 0)), (2, .ref (e_q E 30)), (3, .int y3)] [] σ := by
  refine at_aload_n C 1 dL_law_614 rfl ?_
  refine at_aload_n C 0 dL_law_615 rfl ?_
  refine at_iload_n C 3 dL_law_616 rfl ?_
  refine at_iconst C (1 : Int32) dL_law_617 (by decide) ?_
  refine at_iadd C dL_law_618 ?_
  refine at_sld C hX hbl hbA hi1 dL_law_619 ?_
  refine at_aload_n C 0 dL_law_620 rfl ?_
  refine at_iload_n C 3 dL_law_621 rfl ?_
  refine at_iconst C (2 : Int32) dL_law_622 (by decide) ?_
  refine at_iadd C dL_law_623 ?_
  refine at_sld C hX hbl hbA hi2 dL_law_624 ?_
  refine at_aload_n C 0 dL_law_625 rfl ?_
  refine at_iload_n C 3 dL_law_626 rfl ?_
  refine at_iconst C (3 : Int32) dL_law_627 (by decide) ?_
  refine at_iadd C dL_law_628 ?_
  refine at_sld C hX hbl hbA hi3 dL_law_629 ?_
  refine at_aload_n C 0 dL_law_630 rfl ?_
  refine at_iload_n C 3 dL_law_631 rfl ?_
  refine at_iconst C (4 : Int32) dL_law_632 (by decide) ?_
  refine at_iadd C dL_law_633 ?_
  refine at_sld C hX hbl hbA hi4 dL_law_634 ?_
  refine at_Vi C (As := [.int (xs (y3 + (1 : Int32)).toNatClampNeg), .int (xs (y3 + (2 : Int32)).toNatClampNeg), .int (xs (y3 + (3 : Int32)).toNatClampNeg), .int (xs (y3 + (4 : Int32)).toNatClampNeg)]) (st := []) (b := 0) (ci := 6) (ct_X6_most σ (xs (y3 + (1 : Int32)).toNatClampNeg) (xs (y3 + (2 : Int32)).toNatClampNeg) (xs (y3 + (3 : Int32)).toNatClampNeg) (xs (y3 + (4 : Int32)).toNatClampNeg) hOk.1) mb_X6_most ml_L_81 rfl rfl rfl (by decide) rfl (Nat.le_of_ble_eq_true rfl) dL_law_635 ?_
  rintro r1 u1 ⟨h1, -⟩
  have k1 := Ok.gd hOk h1
  refine at_pop C dL_law_638 rfl ?_
  refine at_aload_n C 2 dL_law_639 rfl ?_
  refine at_aload_n C 0 dL_law_640 rfl ?_
  refine at_iload_n C 3 dL_law_641 rfl ?_
  refine at_iconst C (1 : Int32) dL_law_642 (by decide) ?_
  refine at_iadd C dL_law_643 ?_
  refine at_sld C hX hbl hbA hi1 dL_law_644 ?_
  refine at_aload_n C 0 dL_law_645 rfl ?_
  refine at_iload_n C 3 dL_law_646 rfl ?_
  refine at_iconst C (2 : Int32) dL_law_647 (by decide) ?_
  refine at_iadd C dL_law_648 ?_
  refine at_sld C hX hbl hbA hi2 dL_law_649 ?_
  refine at_aload_n C 0 dL_law_650 rfl ?_
  refine at_iload_n C 3 dL_law_651 rfl ?_
  refine at_iconst C (3 : Int32) dL_law_652 (by decide) ?_
  refine at_iadd C dL_law_653 ?_
  refine at_sld C hX hbl hbA hi3 dL_law_654 ?_
  refine at_aload_n C 0 dL_law_655 rfl ?_
  refine at_iload_n C 3 dL_law_656 rfl ?_
  refine at_iconst C (4 : Int32) dL_law_657 (by decide) ?_
  refine at_iadd C dL_law_658 ?_
  refine at_sld C hX hbl hbA hi4 dL_law_659 ?_
  refine at_Vi C (As := [.int (xs (y3 + (1 : Int32)).toNatClampNeg), .int (xs (y3 + (2 : Int32)).toNatClampNeg), .int (xs (y3 + (3 : Int32)).toNatClampNeg), .int (xs (y3 + (4 : Int32)).toNatClampNeg)]) (st := []) (b := 30) (ci := 7) (ct_X7_most u1 (xs (y3 + (1 : Int32)).toNatClampNeg) (xs (y3 + (2 : Int32)).toNatClampNeg) (xs (y3 + (3 : Int32)).toNatClampNeg) (xs (y3 + (4 : Int32)).toNatClampNeg) k1.1) mb_X7_most ml_L_85 rfl rfl rfl (by decide) rfl (Nat.le_of_ble_eq_true rfl) dL_law_660 ?_
  rintro r2 u2 ⟨h2, -⟩
  have k2 := Ok.gd k1 h2
  refine at_pop C dL_law_663 rfl ?_
  refine at_goto C 1082 dL_law_664 (by decide) ?_
  exact hK u2 k2
set_option maxHeartbeats 4000000 in
set_option maxRecDepth 100000 in
theorem lc_17 {E : EV} {b L : Nat} {xs : Nat → Int32} (hL : L ≤ 2560) (C : CX E code RL 1000) (en : e_n E = 4) (hX : va_X b L xs (e_s E) (e_s E).heap) (hbl : b < (e_s E).heap.size) (hbA : ¬ e_A E b) {y3 : Int32} (hi0 : vp_in y3 L) (hi1 : vp_in (y3 + (1 : Int32)) L) (hi2 : vp_in (y3 + (2 : Int32)) L) (hi3 : vp_in (y3 + (3 : Int32)) L) (hi4 : vp_in (y3 + (4 : Int32)) L) (hK : ∀ σ, Ok σ → AT E 1082 [(0, .ref b), (1, .ref (e_q E 0)), (2, .ref (e_q E 30)), (3, .int y3)] [] σ) (σ : SS) (hOk : Ok σ) : AT E 667 [(0, .ref b), (1, .ref (e_q E 0)), (2, .ref (e_q E 30)), (3, .int y3)] [] σ := by
  refine at_aload_n C 1 dL_law_667 rfl ?_
  refine at_Vi C (As := []) (st := []) (b := 0) (ci := 6) (ct_X6_house σ  hOk.1) mb_X6_house ml_L_86 rfl rfl rfl (by decide) rfl (Nat.le_of_ble_eq_true rfl) dL_law_668 ?_
  rintro r1 u1 h1
  have j1 := pi_X6_house h1
  refine at_pop C dL_law_671 rfl ?_
  refine at_aload_n C 2 dL_law_672 rfl ?_
  refine at_Vi C (As := []) (st := []) (b := 30) (ci := 7) (ct_X7_house u1  j1) mb_X7_house ml_L_89 rfl rfl rfl (by decide) rfl (Nat.le_of_ble_eq_true rfl) dL_law_673 ?_
  rintro r2 u2 h2
  have k2 := ok_house hOk h1 h2
  refine at_pop C dL_law_676 rfl ?_
  refine at_goto C 1082 dL_law_677 (by decide) ?_
  exact hK u2 k2.1
set_option maxHeartbeats 4000000 in
set_option maxRecDepth 100000 in
theorem lc_18 {E : EV} {b L : Nat} {xs : Nat → Int32} (hL : L ≤ 2560) (C : CX E code RL 1000) (en : e_n E = 4) (hX : va_X b L xs (e_s E) (e_s E).heap) (hbl : b < (e_s E).heap.size) (hbA : ¬ e_A E b) {y3 : Int32} (hi0 : vp_in y3 L) (hi1 : vp_in (y3 + (1 : Int32)) L) (hi2 : vp_in (y3 + (2 : Int32)) L) (hi3 : vp_in (y3 + (3 : Int32)) L) (hi4 : vp_in (y3 + (4 : Int32)) L) (hK : ∀ σ, Ok σ → AT E 1082 [(0, .ref b), (1, .ref (e_q E 0)), (2, .ref (e_q E 30)), (3, .int y3)] [] σ) (σ : SS) (hOk : Ok σ) : AT E 680 [(0, .ref b), (1, .ref (e_q E 0)), (2, .ref (e_q E 30)), (3, .int y3)] [] σ := by
  refine at_aload_n C 1 dL_law_680 rfl ?_
  refine at_aload_n C 0 dL_law_681 rfl ?_
  refine at_iload_n C 3 dL_law_682 rfl ?_
  refine at_iconst C (1 : Int32) dL_law_683 (by decide) ?_
  refine at_iadd C dL_law_684 ?_
  refine at_sld C hX hbl hbA hi1 dL_law_685 ?_
  refine at_aload_n C 0 dL_law_686 rfl ?_
  refine at_iload_n C 3 dL_law_687 rfl ?_
  refine at_iconst C (2 : Int32) dL_law_688 (by decide) ?_
  refine at_iadd C dL_law_689 ?_
  refine at_sld C hX hbl hbA hi2 dL_law_690 ?_
  refine at_aload_n C 0 dL_law_691 rfl ?_
  refine at_iload_n C 3 dL_law_692 rfl ?_
  refine at_iconst C (3 : Int32) dL_law_693 (by decide) ?_
  refine at_iadd C dL_law_694 ?_
  refine at_sld C hX hbl hbA hi3 dL_law_695 ?_
  refine at_Vi C (As := [.int (xs (y3 + (1 : Int32)).toNatClampNeg), .int (xs (y3 + (2 : Int32)).toNatClampNeg), .int (xs (y3 + (3 : Int32)).toNatClampNeg)]) (st := []) (b := 0) (ci := 6) (ct_X6_ask σ (xs (y3 + (1 : Int32)).toNatClampNeg) (xs (y3 + (2 : Int32)).toNatClampNeg) (xs (y3 + (3 : Int32)).toNatClampNeg) hOk.1) mb_X6_ask ml_L_90 rfl rfl rfl (by decide) rfl (Nat.le_of_ble_eq_true rfl) dL_law_696 ?_
  rintro r1 u1 h1
  have j1 := pi_X6_ask h1
  refine at_pop C dL_law_699 rfl ?_
  refine at_aload_n C 2 dL_law_700 rfl ?_
  refine at_aload_n C 0 dL_law_701 rfl ?_
  refine at_iload_n C 3 dL_law_702 rfl ?_
  refine at_iconst C (1 : Int32) dL_law_703 (by decide) ?_
  refine at_iadd C dL_law_704 ?_
  refine at_sld C hX hbl hbA hi1 dL_law_705 ?_
  refine at_aload_n C 0 dL_law_706 rfl ?_
  refine at_iload_n C 3 dL_law_707 rfl ?_
  refine at_iconst C (2 : Int32) dL_law_708 (by decide) ?_
  refine at_iadd C dL_law_709 ?_
  refine at_sld C hX hbl hbA hi2 dL_law_710 ?_
  refine at_aload_n C 0 dL_law_711 rfl ?_
  refine at_iload_n C 3 dL_law_712 rfl ?_
  refine at_iconst C (3 : Int32) dL_law_713 (by decide) ?_
  refine at_iadd C dL_law_714 ?_
  refine at_sld C hX hbl hbA hi3 dL_law_715 ?_
  refine at_Vi C (As := [.int (xs (y3 + (1 : Int32)).toNatClampNeg), .int (xs (y3 + (2 : Int32)).toNatClampNeg), .int (xs (y3 + (3 : Int32)).toNatClampNeg)]) (st := []) (b := 30) (ci := 7) (ct_X7_ask u1 (xs (y3 + (1 : Int32)).toNatClampNeg) (xs (y3 + (2 : Int32)).toNatClampNeg) (xs (y3 + (3 : Int32)).toNatClampNeg) j1) mb_X7_ask ml_L_93 rfl rfl rfl (by decide) rfl (Nat.le_of_ble_eq_true rfl) dL_law_716 ?_
  rintro r2 u2 h2
  have k2 := ok_ask hOk h1 h2
  refine at_pop C dL_law_719 rfl ?_
  refine at_goto C 1082 dL_law_720 (by decide) ?_
  exact hK u2 k2.1
set_option maxHeartbeats 4000000 in
set_option maxRecDepth 100000 in
theorem lc_19 {E : EV} {b L : Nat} {xs : Nat → Int32} (hL : L ≤ 2560) (C : CX E code RL 1000) (en : e_n E = 4) (hX : va_X b L xs (e_s E) (e_s E).heap) (hbl : b < (e_s E).heap.size) (hbA : ¬ e_A E b) {y3 : Int32} (hi0 : vp_in y3 L) (hi1 : vp_in (y3 + (1 : Int32)) L) (hi2 : vp_in (y3 + (2 : Int32)) L) (hi3 : vp_in (y3 + (3 : Int32)) L) (hi4 : vp_in (y3 + (4 : Int32)) L) (hK : ∀ σ, Ok σ → AT E 1082 [(0, .ref b), (1, .ref (e_q E 0)), (2, .ref (e_q E 30)), (3, .int y3)] [] σ) (σ : SS) (hOk : Ok σ) : AT E 723 [(0, .ref b), (1, .ref (e_q E 0)), (2, .ref (e_q E 30)), (3, .int y3)] [] σ := by
  refine at_aload_n C 1 dL_law_723 rfl ?_
  refine at_aload_n C 0 dL_law_724 rfl ?_
  refine at_iload_n C 3 dL_law_725 rfl ?_
  refine at_iconst C (1 : Int32) dL_law_726 (by decide) ?_
  refine at_iadd C dL_law_727 ?_
  refine at_sld C hX hbl hbA hi1 dL_law_728 ?_
  refine at_aload_n C 0 dL_law_729 rfl ?_
  refine at_iload_n C 3 dL_law_730 rfl ?_
  refine at_iconst C (2 : Int32) dL_law_731 (by decide) ?_
  refine at_iadd C dL_law_732 ?_
  refine at_sld C hX hbl hbA hi2 dL_law_733 ?_
  refine at_Vi C (As := [.int (xs (y3 + (1 : Int32)).toNatClampNeg), .int (xs (y3 + (2 : Int32)).toNatClampNeg)]) (st := []) (b := 0) (ci := 6) (ct_X6_best σ (xs (y3 + (1 : Int32)).toNatClampNeg) (xs (y3 + (2 : Int32)).toNatClampNeg) hOk.1) mb_X6_best ml_L_94 rfl rfl rfl (by decide) rfl (Nat.le_of_ble_eq_true rfl) dL_law_734 ?_
  rintro r1 u1 ⟨h1, -⟩
  have k1 := Ok.gd hOk h1
  refine at_pop C dL_law_737 rfl ?_
  refine at_aload_n C 2 dL_law_738 rfl ?_
  refine at_aload_n C 0 dL_law_739 rfl ?_
  refine at_iload_n C 3 dL_law_740 rfl ?_
  refine at_iconst C (1 : Int32) dL_law_741 (by decide) ?_
  refine at_iadd C dL_law_742 ?_
  refine at_sld C hX hbl hbA hi1 dL_law_743 ?_
  refine at_aload_n C 0 dL_law_744 rfl ?_
  refine at_iload_n C 3 dL_law_745 rfl ?_
  refine at_iconst C (2 : Int32) dL_law_746 (by decide) ?_
  refine at_iadd C dL_law_747 ?_
  refine at_sld C hX hbl hbA hi2 dL_law_748 ?_
  refine at_Vi C (As := [.int (xs (y3 + (1 : Int32)).toNatClampNeg), .int (xs (y3 + (2 : Int32)).toNatClampNeg)]) (st := []) (b := 30) (ci := 7) (ct_X7_best u1 (xs (y3 + (1 : Int32)).toNatClampNeg) (xs (y3 + (2 : Int32)).toNatClampNeg) k1.1) mb_X7_best ml_L_97 rfl rfl rfl (by decide) rfl (Nat.le_of_ble_eq_true rfl) dL_law_749 ?_
  rintro r2 u2 ⟨h2, -⟩
  have k2 := Ok.gd k1 h2
  refine at_pop C dL_law_752 rfl ?_
  refine at_goto C 1082 dL_law_753 (by decide) ?_
  exact hK u2 k2
set_option maxHeartbeats 4000000 in
set_option maxRecDepth 100000 in
theorem lc_20 {E : EV} {b L : Nat} {xs : Nat → Int32} (hL : L ≤ 2560) (C : CX E code RL 1000) (en : e_n E = 4) (hX : va_X b L xs (e_s E) (e_s E).heap) (hbl : b < (e_s E).heap.size) (hbA : ¬ e_A E b) {y3 : Int32} (hi0 : vp_in y3 L) (hi1 : vp_in (y3 + (1 : Int32)) L) (hi2 : vp_in (y3 + (2 : Int32)) L) (hi3 : vp_in (y3 + (3 : Int32)) L) (hi4 : vp_in (y3 + (4 : Int32)) L) (hK : ∀ σ, Ok σ → AT E 1082 [(0, .ref b), (1, .ref (e_q E 0)), (2, .ref (e_q E 30)), (3, .int y3)] [] σ) (σ : SS) (hOk : Ok σ) : AT E 756 [(0, .ref b), (1, .ref (e_q E 0)), (2, .ref (e_q E 30)), (3, .int y3)] [] σ := by
  refine at_aload_n C 1 dL_law_756 rfl ?_
  refine at_aload_n C 0 dL_law_757 rfl ?_
  refine at_iload_n C 3 dL_law_758 rfl ?_
  refine at_iconst C (1 : Int32) dL_law_759 (by decide) ?_
  refine at_iadd C dL_law_760 ?_
  refine at_sld C hX hbl hbA hi1 dL_law_761 ?_
  refine at_Vi C (As := [.int (xs (y3 + (1 : Int32)).toNatClampNeg)]) (st := []) (b := 0) (ci := 6) (ct_X6_takes σ (xs (y3 + (1 : Int32)).toNatClampNeg) hOk.1) mb_X6_takes ml_L_98 rfl rfl rfl (by decide) rfl (Nat.le_of_ble_eq_true rfl) dL_law_762 ?_
  rintro r1 u1 ⟨h1, -⟩
  have k1 := Ok.gd hOk h1
  refine at_pop C dL_law_765 rfl ?_
  refine at_aload_n C 2 dL_law_766 rfl ?_
  refine at_aload_n C 0 dL_law_767 rfl ?_
  refine at_iload_n C 3 dL_law_768 rfl ?_
  refine at_iconst C (1 : Int32) dL_law_769 (by decide) ?_
  refine at_iadd C dL_law_770 ?_
  refine at_sld C hX hbl hbA hi1 dL_law_771 ?_
  refine at_Vi C (As := [.int (xs (y3 + (1 : Int32)).toNatClampNeg)]) (st := []) (b := 30) (ci := 7) (ct_X7_takes u1 (xs (y3 + (1 : Int32)).toNatClampNeg) k1.1) mb_X7_takes ml_L_101 rfl rfl rfl (by decide) rfl (Nat.le_of_ble_eq_true rfl) dL_law_772 ?_
  rintro r2 u2 ⟨h2, -⟩
  have k2 := Ok.gd k1 h2
  refine at_pop C dL_law_775 rfl ?_
  refine at_goto C 1082 dL_law_776 (by decide) ?_
  exact hK u2 k2
set_option maxHeartbeats 4000000 in
set_option maxRecDepth 100000 in
theorem lc_21 {E : EV} {b L : Nat} {xs : Nat → Int32} (hL : L ≤ 2560) (C : CX E code RL 1000) (en : e_n E = 4) (hX : va_X b L xs (e_s E) (e_s E).heap) (hbl : b < (e_s E).heap.size) (hbA : ¬ e_A E b) {y3 : Int32} (hi0 : vp_in y3 L) (hi1 : vp_in (y3 + (1 : Int32)) L) (hi2 : vp_in (y3 + (2 : Int32)) L) (hi3 : vp_in (y3 + (3 : Int32)) L) (hi4 : vp_in (y3 + (4 : Int32)) L) (hK : ∀ σ, Ok σ → AT E 1082 [(0, .ref b), (1, .ref (e_q E 0)), (2, .ref (e_q E 30)), (3, .int y3)] [] σ) (σ : SS) (hOk : Ok σ) : AT E 779 [(0, .ref b), (1, .ref (e_q E 0)), (2, .ref (e_q E 30)), (3, .int y3)] [] σ := by
  refine at_aload_n C 1 dL_law_779 rfl ?_
  refine at_aload_n C 0 dL_law_780 rfl ?_
  refine at_iload_n C 3 dL_law_781 rfl ?_
  refine at_iconst C (1 : Int32) dL_law_782 (by decide) ?_
  refine at_iadd C dL_law_783 ?_
  refine at_sld C hX hbl hbA hi1 dL_law_784 ?_
  refine at_aload_n C 0 dL_law_785 rfl ?_
  refine at_iload_n C 3 dL_law_786 rfl ?_
  refine at_iconst C (2 : Int32) dL_law_787 (by decide) ?_
  refine at_iadd C dL_law_788 ?_
  refine at_sld C hX hbl hbA hi2 dL_law_789 ?_
  refine at_Vi C (As := [.int (xs (y3 + (1 : Int32)).toNatClampNeg), .int (xs (y3 + (2 : Int32)).toNatClampNeg)]) (st := []) (b := 0) (ci := 6) (ct_X6_price σ (xs (y3 + (1 : Int32)).toNatClampNeg) (xs (y3 + (2 : Int32)).toNatClampNeg) hOk.1) mb_X6_price ml_L_102 rfl rfl rfl (by decide) rfl (Nat.le_of_ble_eq_true rfl) dL_law_790 ?_
  rintro r1 u1 h1
  have j1 := pi_X6_price h1
  refine at_pop C dL_law_793 rfl ?_
  refine at_aload_n C 2 dL_law_794 rfl ?_
  refine at_aload_n C 0 dL_law_795 rfl ?_
  refine at_iload_n C 3 dL_law_796 rfl ?_
  refine at_iconst C (1 : Int32) dL_law_797 (by decide) ?_
  refine at_iadd C dL_law_798 ?_
  refine at_sld C hX hbl hbA hi1 dL_law_799 ?_
  refine at_aload_n C 0 dL_law_800 rfl ?_
  refine at_iload_n C 3 dL_law_801 rfl ?_
  refine at_iconst C (2 : Int32) dL_law_802 (by decide) ?_
  refine at_iadd C dL_law_803 ?_
  refine at_sld C hX hbl hbA hi2 dL_law_804 ?_
  refine at_Vi C (As := [.int (xs (y3 + (1 : Int32)).toNatClampNeg), .int (xs (y3 + (2 : Int32)).toNatClampNeg)]) (st := []) (b := 30) (ci := 7) (ct_X7_price u1 (xs (y3 + (1 : Int32)).toNatClampNeg) (xs (y3 + (2 : Int32)).toNatClampNeg) j1) mb_X7_price ml_L_105 rfl rfl rfl (by decide) rfl (Nat.le_of_ble_eq_true rfl) dL_law_805 ?_
  rintro r2 u2 h2
  have k2 := ok_price hOk h1 h2
  refine at_pop C dL_law_808 rfl ?_
  refine at_goto C 1082 dL_law_809 (by decide) ?_
  exact hK u2 k2.1
set_option maxHeartbeats 4000000 in
set_option maxRecDepth 100000 in
theorem lc_22 {E : EV} {b L : Nat} {xs : Nat → Int32} (hL : L ≤ 2560) (C : CX E code RL 1000) (en : e_n E = 4) (hX : va_X b L xs (e_s E) (e_s E).heap) (hbl : b < (e_s E).heap.size) (hbA : ¬ e_A E b) {y3 : Int32} (hi0 : vp_in y3 L) (hi1 : vp_in (y3 + (1 : Int32)) L) (hi2 : vp_in (y3 + (2 : Int32)) L) (hi3 : vp_in (y3 + (3 : Int32)) L) (hi4 : vp_in (y3 + (4 : Int32)) L) (hK : ∀ σ, Ok σ → AT E 1082 [(0, .ref b), (1, .ref (e_q E 0)), (2, .ref (e_q E 30)), (3, .int y3)] [] σ) (σ : SS) (hOk : Ok σ) : AT E 812 [(0, .ref b), (1, .ref (e_q E 0)), (2, .ref (e_q E 30)), (3, .int y3)] [] σ := by
  refine at_aload_n C 1 dL_law_812 rfl ?_
  refine at_aload_n C 0 dL_law_813 rfl ?_
  refine at_iload_n C 3 dL_law_814 rfl ?_
  refine at_iconst C (1 : Int32) dL_law_815 (by decide) ?_
  refine at_iadd C dL_law_816 ?_
  refine at_sld C hX hbl hbA hi1 dL_law_817 ?_
  refine at_Vi C (As := [.int (xs (y3 + (1 : Int32)).toNatClampNeg)]) (st := []) (b := 0) (ci := 6) (ct_X6_blocks σ (xs (y3 + (1 : Int32)).toNatClampNeg) hOk.1) mb_X6_blocks ml_L_106 rfl rfl rfl (by decide) rfl (Nat.le_of_ble_eq_true rfl) dL_law_818 ?_
  rintro r1 u1 ⟨h1, -⟩
  have k1 := Ok.gd hOk h1
  refine at_pop C dL_law_821 rfl ?_
  refine at_aload_n C 2 dL_law_822 rfl ?_
  refine at_aload_n C 0 dL_law_823 rfl ?_
  refine at_iload_n C 3 dL_law_824 rfl ?_
  refine at_iconst C (1 : Int32) dL_law_825 (by decide) ?_
  refine at_iadd C dL_law_826 ?_
  refine at_sld C hX hbl hbA hi1 dL_law_827 ?_
  refine at_Vi C (As := [.int (xs (y3 + (1 : Int32)).toNatClampNeg)]) (st := []) (b := 30) (ci := 7) (ct_X7_blocks u1 (xs (y3 + (1 : Int32)).toNatClampNeg) k1.1) mb_X7_blocks ml_L_109 rfl rfl rfl (by decide) rfl (Nat.le_of_ble_eq_true rfl) dL_law_828 ?_
  rintro r2 u2 ⟨h2, -⟩
  have k2 := Ok.gd k1 h2
  refine at_pop C dL_law_831 rfl ?_
  refine at_goto C 1082 dL_law_832 (by decide) ?_
  exact hK u2 k2
set_option maxHeartbeats 4000000 in
set_option maxRecDepth 100000 in
theorem lc_23 {E : EV} {b L : Nat} {xs : Nat → Int32} (hL : L ≤ 2560) (C : CX E code RL 1000) (en : e_n E = 4) (hX : va_X b L xs (e_s E) (e_s E).heap) (hbl : b < (e_s E).heap.size) (hbA : ¬ e_A E b) {y3 : Int32} (hi0 : vp_in y3 L) (hi1 : vp_in (y3 + (1 : Int32)) L) (hi2 : vp_in (y3 + (2 : Int32)) L) (hi3 : vp_in (y3 + (3 : Int32)) L) (hi4 : vp_in (y3 + (4 : Int32)) L) (hK : ∀ σ, Ok σ → AT E 1082 [(0, .ref b), (1, .ref (e_q E 0)), (2, .ref (e_q E 30)), (3, .int y3)] [] σ) (σ : SS) (hOk : Ok σ) : AT E 835 [(0, .ref b), (1, .ref (e_q E 0)), (2, .ref (e_q E 30)), (3, .int y3)] [] σ := by
  refine at_aload_n C 1 dL_law_835 rfl ?_
  refine at_Vi C (As := []) (st := []) (b := 0) (ci := 6) (ct_X6_alone σ  hOk.1) mb_X6_alone ml_L_110 rfl rfl rfl (by decide) rfl (Nat.le_of_ble_eq_true rfl) dL_law_836 ?_
  rintro r1 u1 ⟨h1, -⟩
  have k1 := Ok.gd hOk h1
  refine at_pop C dL_law_839 rfl ?_
  refine at_aload_n C 2 dL_law_840 rfl ?_
  refine at_Vi C (As := []) (st := []) (b := 30) (ci := 7) (ct_X7_alone u1  k1.1) mb_X7_alone ml_L_113 rfl rfl rfl (by decide) rfl (Nat.le_of_ble_eq_true rfl) dL_law_841 ?_
  rintro r2 u2 ⟨h2, -⟩
  have k2 := Ok.gd k1 h2
  refine at_pop C dL_law_844 rfl ?_
  refine at_goto C 1082 dL_law_845 (by decide) ?_
  exact hK u2 k2
set_option maxHeartbeats 4000000 in
set_option maxRecDepth 100000 in
theorem lc_24 {E : EV} {b L : Nat} {xs : Nat → Int32} (hL : L ≤ 2560) (C : CX E code RL 1000) (en : e_n E = 4) (hX : va_X b L xs (e_s E) (e_s E).heap) (hbl : b < (e_s E).heap.size) (hbA : ¬ e_A E b) {y3 : Int32} (hi0 : vp_in y3 L) (hi1 : vp_in (y3 + (1 : Int32)) L) (hi2 : vp_in (y3 + (2 : Int32)) L) (hi3 : vp_in (y3 + (3 : Int32)) L) (hi4 : vp_in (y3 + (4 : Int32)) L) (hK : ∀ σ, Ok σ → AT E 1082 [(0, .ref b), (1, .ref (e_q E 0)), (2, .ref (e_q E 30)), (3, .int y3)] [] σ) (σ : SS) (hOk : Ok σ) : AT E 848 [(0, .ref b), (1, .ref (e_q E 0)), (2, .ref (e_q E 30)), (3, .int y3)] [] σ := by
  refine at_aload_n C 1 dL_law_848 rfl ?_
  refine at_aload_n C 0 dL_law_849 rfl ?_
  refine at_iload_n C 3 dL_law_850 rfl ?_
  refine at_iconst C (1 : Int32) dL_law_851 (by decide) ?_
  refine at_iadd C dL_law_852 ?_
  refine at_sld C hX hbl hbA hi1 dL_law_853 ?_
  refine at_aload_n C 0 dL_law_854 rfl ?_
  refine at_iload_n C 3 dL_law_855 rfl ?_
  refine at_iconst C (2 : Int32) dL_law_856 (by decide) ?_
  refine at_iadd C dL_law_857 ?_
  refine at_sld C hX hbl hbA hi2 dL_law_858 ?_
  refine at_aload_n C 0 dL_law_859 rfl ?_
  refine at_iload_n C 3 dL_law_860 rfl ?_
  refine at_iconst C (3 : Int32) dL_law_861 (by decide) ?_
  refine at_iadd C dL_law_862 ?_
  refine at_sld C hX hbl hbA hi3 dL_law_863 ?_
  refine at_Vi C (As := [.int (xs (y3 + (1 : Int32)).toNatClampNeg), .int (xs (y3 + (2 : Int32)).toNatClampNeg), .int (xs (y3 + (3 : Int32)).toNatClampNeg)]) (st := []) (b := 0) (ci := 6) (ct_X6_tell σ (xs (y3 + (1 : Int32)).toNatClampNeg) (xs (y3 + (2 : Int32)).toNatClampNeg) (xs (y3 + (3 : Int32)).toNatClampNeg) hOk.1) mb_X6_tell ml_L_114 rfl rfl rfl (by decide) rfl (Nat.le_of_ble_eq_true rfl) dL_law_864 ?_
  rintro r1 u1 h1
  have j1 := pi_X6_tell h1
  refine at_pop C dL_law_867 rfl ?_
  refine at_aload_n C 2 dL_law_868 rfl ?_
  refine at_aload_n C 0 dL_law_869 rfl ?_
  refine at_iload_n C 3 dL_law_870 rfl ?_
  refine at_iconst C (1 : Int32) dL_law_871 (by decide) ?_
  refine at_iadd C dL_law_872 ?_
  refine at_sld C hX hbl hbA hi1 dL_law_873 ?_
  refine at_aload_n C 0 dL_law_874 rfl ?_
  refine at_iload_n C 3 dL_law_875 rfl ?_
  refine at_iconst C (2 : Int32) dL_law_876 (by decide) ?_
  refine at_iadd C dL_law_877 ?_
  refine at_sld C hX hbl hbA hi2 dL_law_878 ?_
  refine at_aload_n C 0 dL_law_879 rfl ?_
  refine at_iload_n C 3 dL_law_880 rfl ?_
  refine at_iconst C (3 : Int32) dL_law_881 (by decide) ?_
  refine at_iadd C dL_law_882 ?_
  refine at_sld C hX hbl hbA hi3 dL_law_883 ?_
  refine at_Vi C (As := [.int (xs (y3 + (1 : Int32)).toNatClampNeg), .int (xs (y3 + (2 : Int32)).toNatClampNeg), .int (xs (y3 + (3 : Int32)).toNatClampNeg)]) (st := []) (b := 30) (ci := 7) (ct_X7_tell u1 (xs (y3 + (1 : Int32)).toNatClampNeg) (xs (y3 + (2 : Int32)).toNatClampNeg) (xs (y3 + (3 : Int32)).toNatClampNeg) j1) mb_X7_tell ml_L_117 rfl rfl rfl (by decide) rfl (Nat.le_of_ble_eq_true rfl) dL_law_884 ?_
  rintro r2 u2 h2
  have k2 := ok_tell hOk h1 h2
  refine at_pop C dL_law_887 rfl ?_
  refine at_goto C 1082 dL_law_888 (by decide) ?_
  exact hK u2 k2.1
set_option maxHeartbeats 4000000 in
set_option maxRecDepth 100000 in
theorem lc_25 {E : EV} {b L : Nat} {xs : Nat → Int32} (hL : L ≤ 2560) (C : CX E code RL 1000) (en : e_n E = 4) (hX : va_X b L xs (e_s E) (e_s E).heap) (hbl : b < (e_s E).heap.size) (hbA : ¬ e_A E b) {y3 : Int32} (hi0 : vp_in y3 L) (hi1 : vp_in (y3 + (1 : Int32)) L) (hi2 : vp_in (y3 + (2 : Int32)) L) (hi3 : vp_in (y3 + (3 : Int32)) L) (hi4 : vp_in (y3 + (4 : Int32)) L) (hK : ∀ σ, Ok σ → AT E 1082 [(0, .ref b), (1, .ref (e_q E 0)), (2, .ref (e_q E 30)), (3, .int y3)] [] σ) (σ : SS) (hOk : Ok σ) : AT E 891 [(0, .ref b), (1, .ref (e_q E 0)), (2, .ref (e_q E 30)), (3, .int y3)] [] σ := by
  refine at_aload_n C 1 dL_law_891 rfl ?_
  refine at_aload_n C 0 dL_law_892 rfl ?_
  refine at_iload_n C 3 dL_law_893 rfl ?_
  refine at_iconst C (1 : Int32) dL_law_894 (by decide) ?_
  refine at_iadd C dL_law_895 ?_
  refine at_sld C hX hbl hbA hi1 dL_law_896 ?_
  refine at_aload_n C 0 dL_law_897 rfl ?_
  refine at_iload_n C 3 dL_law_898 rfl ?_
  refine at_iconst C (2 : Int32) dL_law_899 (by decide) ?_
  refine at_iadd C dL_law_900 ?_
  refine at_sld C hX hbl hbA hi2 dL_law_901 ?_
  refine at_Vi C (As := [.int (xs (y3 + (1 : Int32)).toNatClampNeg), .int (xs (y3 + (2 : Int32)).toNatClampNeg)]) (st := []) (b := 0) (ci := 6) (ct_X6_weeks σ (xs (y3 + (1 : Int32)).toNatClampNeg) (xs (y3 + (2 : Int32)).toNatClampNeg) hOk.1) mb_X6_weeks ml_L_118 rfl rfl rfl (by decide) rfl (Nat.le_of_ble_eq_true rfl) dL_law_902 ?_
  rintro r1 u1 ⟨h1, -⟩
  have k1 := Ok.gd hOk h1
  refine at_pop C dL_law_905 rfl ?_
  refine at_aload_n C 2 dL_law_906 rfl ?_
  refine at_aload_n C 0 dL_law_907 rfl ?_
  refine at_iload_n C 3 dL_law_908 rfl ?_
  refine at_iconst C (1 : Int32) dL_law_909 (by decide) ?_
  refine at_iadd C dL_law_910 ?_
  refine at_sld C hX hbl hbA hi1 dL_law_911 ?_
  refine at_aload_n C 0 dL_law_912 rfl ?_
  refine at_iload_n C 3 dL_law_913 rfl ?_
  refine at_iconst C (2 : Int32) dL_law_914 (by decide) ?_
  refine at_iadd C dL_law_915 ?_
  refine at_sld C hX hbl hbA hi2 dL_law_916 ?_
  refine at_Vi C (As := [.int (xs (y3 + (1 : Int32)).toNatClampNeg), .int (xs (y3 + (2 : Int32)).toNatClampNeg)]) (st := []) (b := 30) (ci := 7) (ct_X7_weeks u1 (xs (y3 + (1 : Int32)).toNatClampNeg) (xs (y3 + (2 : Int32)).toNatClampNeg) k1.1) mb_X7_weeks ml_L_121 rfl rfl rfl (by decide) rfl (Nat.le_of_ble_eq_true rfl) dL_law_917 ?_
  rintro r2 u2 ⟨h2, -⟩
  have k2 := Ok.gd k1 h2
  refine at_pop C dL_law_920 rfl ?_
  refine at_goto C 1082 dL_law_921 (by decide) ?_
  exact hK u2 k2
set_option maxHeartbeats 4000000 in
set_option maxRecDepth 100000 in
theorem lc_26 {E : EV} {b L : Nat} {xs : Nat → Int32} (hL : L ≤ 2560) (C : CX E code RL 1000) (en : e_n E = 4) (hX : va_X b L xs (e_s E) (e_s E).heap) (hbl : b < (e_s E).heap.size) (hbA : ¬ e_A E b) {y3 : Int32} (hi0 : vp_in y3 L) (hi1 : vp_in (y3 + (1 : Int32)) L) (hi2 : vp_in (y3 + (2 : Int32)) L) (hi3 : vp_in (y3 + (3 : Int32)) L) (hi4 : vp_in (y3 + (4 : Int32)) L) (hK : ∀ σ, Ok σ → AT E 1082 [(0, .ref b), (1, .ref (e_q E 0)), (2, .ref (e_q E 30)), (3, .int y3)] [] σ) (σ : SS) (hOk : Ok σ) : AT E 924 [(0, .ref b), (1, .ref (e_q E 0)), (2, .ref (e_q E 30)), (3, .int y3)] [] σ := by
  refine at_aload_n C 1 dL_law_924 rfl ?_
  refine at_aload_n C 0 dL_law_925 rfl ?_
  refine at_iload_n C 3 dL_law_926 rfl ?_
  refine at_iconst C (1 : Int32) dL_law_927 (by decide) ?_
  refine at_iadd C dL_law_928 ?_
  refine at_sld C hX hbl hbA hi1 dL_law_929 ?_
  refine at_aload_n C 0 dL_law_930 rfl ?_
  refine at_iload_n C 3 dL_law_931 rfl ?_
  refine at_iconst C (2 : Int32) dL_law_932 (by decide) ?_
  refine at_iadd C dL_law_933 ?_
  refine at_sld C hX hbl hbA hi2 dL_law_934 ?_
  refine at_Vi C (As := [.int (xs (y3 + (1 : Int32)).toNatClampNeg), .int (xs (y3 + (2 : Int32)).toNatClampNeg)]) (st := []) (b := 0) (ci := 6) (ct_X6_tower σ (xs (y3 + (1 : Int32)).toNatClampNeg) (xs (y3 + (2 : Int32)).toNatClampNeg) hOk.1) mb_X6_tower ml_L_122 rfl rfl rfl (by decide) rfl (Nat.le_of_ble_eq_true rfl) dL_law_935 ?_
  rintro r1 _ ⟨rfl, h1⟩
  refine at_pop C dL_law_938 rfl ?_
  refine at_aload_n C 2 dL_law_939 rfl ?_
  refine at_aload_n C 0 dL_law_940 rfl ?_
  refine at_iload_n C 3 dL_law_941 rfl ?_
  refine at_iconst C (1 : Int32) dL_law_942 (by decide) ?_
  refine at_iadd C dL_law_943 ?_
  refine at_sld C hX hbl hbA hi1 dL_law_944 ?_
  refine at_aload_n C 0 dL_law_945 rfl ?_
  refine at_iload_n C 3 dL_law_946 rfl ?_
  refine at_iconst C (2 : Int32) dL_law_947 (by decide) ?_
  refine at_iadd C dL_law_948 ?_
  refine at_sld C hX hbl hbA hi2 dL_law_949 ?_
  refine at_Vi C (As := [.int (xs (y3 + (1 : Int32)).toNatClampNeg), .int (xs (y3 + (2 : Int32)).toNatClampNeg)]) (st := []) (b := 30) (ci := 7) (ct_X7_tower σ (xs (y3 + (1 : Int32)).toNatClampNeg) (xs (y3 + (2 : Int32)).toNatClampNeg) hOk.1) mb_X7_tower ml_L_125 rfl rfl rfl (by decide) rfl (Nat.le_of_ble_eq_true rfl) dL_law_950 ?_
  rintro r2 _ ⟨rfl, h2⟩
  refine at_pop C dL_law_953 rfl ?_
  refine at_goto C 1082 dL_law_954 (by decide) ?_
  exact hK σ hOk
set_option maxHeartbeats 4000000 in
set_option maxRecDepth 100000 in
theorem lc_27 {E : EV} {b L : Nat} {xs : Nat → Int32} (hL : L ≤ 2560) (C : CX E code RL 1000) (en : e_n E = 4) (hX : va_X b L xs (e_s E) (e_s E).heap) (hbl : b < (e_s E).heap.size) (hbA : ¬ e_A E b) {y3 : Int32} (hi0 : vp_in y3 L) (hi1 : vp_in (y3 + (1 : Int32)) L) (hi2 : vp_in (y3 + (2 : Int32)) L) (hi3 : vp_in (y3 + (3 : Int32)) L) (hi4 : vp_in (y3 + (4 : Int32)) L) (hK : ∀ σ, Ok σ → AT E 1082 [(0, .ref b), (1, .ref (e_q E 0)), (2, .ref (e_q E 30)), (3, .int y3)] [] σ) (σ : SS) (hOk : Ok σ) : AT E 957 [(0, .ref b), (1, .ref (e_q E 0)), (2, .ref (e_q E 30)), (3, .int y3)] [] σ := by
  refine at_aload_n C 1 dL_law_957 rfl ?_
  refine at_aload_n C 0 dL_law_958 rfl ?_
  refine at_iload_n C 3 dL_law_959 rfl ?_
  refine at_iconst C (1 : Int32) dL_law_960 (by decide) ?_
  refine at_iadd C dL_law_961 ?_
  refine at_sld C hX hbl hbA hi1 dL_law_962 ?_
  refine at_Vi C (As := [.int (xs (y3 + (1 : Int32)).toNatClampNeg)]) (st := []) (b := 0) (ci := 6) (ct_X6_free σ (xs (y3 + (1 : Int32)).toNatClampNeg) hOk.1) mb_X6_free ml_L_126 rfl rfl rfl (by decide) rfl (Nat.le_of_ble_eq_true rfl) dL_law_963 ?_
  rintro r1 _ ⟨rfl, h1⟩
  refine at_pop C dL_law_966 rfl ?_
  refine at_aload_n C 2 dL_law_967 rfl ?_
  refine at_aload_n C 0 dL_law_968 rfl ?_
  refine at_iload_n C 3 dL_law_969 rfl ?_
  refine at_iconst C (1 : Int32) dL_law_970 (by decide) ?_
  refine at_iadd C dL_law_971 ?_
  refine at_sld C hX hbl hbA hi1 dL_law_972 ?_
  refine at_Vi C (As := [.int (xs (y3 + (1 : Int32)).toNatClampNeg)]) (st := []) (b := 30) (ci := 7) (ct_X7_free σ (xs (y3 + (1 : Int32)).toNatClampNeg) hOk.1) mb_X7_free ml_L_129 rfl rfl rfl (by decide) rfl (Nat.le_of_ble_eq_true rfl) dL_law_973 ?_
  rintro r2 _ ⟨rfl, h2⟩
  refine at_pop C dL_law_976 rfl ?_
  refine at_goto C 1082 dL_law_977 (by decide) ?_
  exact hK σ hOk
set_option maxHeartbeats 4000000 in
set_option maxRecDepth 100000 in
theorem lc_28 {E : EV} {b L : Nat} {xs : Nat → Int32} (hL : L ≤ 2560) (C : CX E code RL 1000) (en : e_n E = 4) (hX : va_X b L xs (e_s E) (e_s E).heap) (hbl : b < (e_s E).heap.size) (hbA : ¬ e_A E b) {y3 : Int32} (hi0 : vp_in y3 L) (hi1 : vp_in (y3 + (1 : Int32)) L) (hi2 : vp_in (y3 + (2 : Int32)) L) (hi3 : vp_in (y3 + (3 : Int32)) L) (hi4 : vp_in (y3 + (4 : Int32)) L) (hK : ∀ σ, Ok σ → AT E 1082 [(0, .ref b), (1, .ref (e_q E 0)), (2, .ref (e_q E 30)), (3, .int y3)] [] σ) (σ : SS) (hOk : Ok σ) : AT E 980 [(0, .ref b), (1, .ref (e_q E 0)), (2, .ref (e_q E 30)), (3, .int y3)] [] σ := by
  refine at_aload_n C 1 dL_law_980 rfl ?_
  refine at_aload_n C 0 dL_law_981 rfl ?_
  refine at_iload_n C 3 dL_law_982 rfl ?_
  refine at_iconst C (1 : Int32) dL_law_983 (by decide) ?_
  refine at_iadd C dL_law_984 ?_
  refine at_sld C hX hbl hbA hi1 dL_law_985 ?_
  refine at_aload_n C 0 dL_law_986 rfl ?_
  refine at_iload_n C 3 dL_law_987 rfl ?_
  refine at_iconst C (2 : Int32) dL_law_988 (by decide) ?_
  refine at_iadd C dL_law_989 ?_
  refine at_sld C hX hbl hbA hi2 dL_law_990 ?_
  refine at_Vi C (As := [.int (xs (y3 + (1 : Int32)).toNatClampNeg), .int (xs (y3 + (2 : Int32)).toNatClampNeg)]) (st := []) (b := 0) (ci := 6) (ct_X6_heard σ (xs (y3 + (1 : Int32)).toNatClampNeg) (xs (y3 + (2 : Int32)).toNatClampNeg) hOk.1) mb_X6_heard ml_L_130 rfl rfl rfl (by decide) rfl (Nat.le_of_ble_eq_true rfl) dL_law_991 ?_
  rintro r1 u1 h1
  have j1 := pi_X6_heard h1
  refine at_aload_n C 2 dL_law_994 rfl ?_
  refine at_aload_n C 0 dL_law_995 rfl ?_
  refine at_iload_n C 3 dL_law_996 rfl ?_
  refine at_iconst C (1 : Int32) dL_law_997 (by decide) ?_
  refine at_iadd C dL_law_998 ?_
  refine at_sld C hX hbl hbA hi1 dL_law_999 ?_
  refine at_aload_n C 0 dL_law_1000 rfl ?_
  refine at_iload_n C 3 dL_law_1001 rfl ?_
  refine at_iconst C (2 : Int32) dL_law_1002 (by decide) ?_
  refine at_iadd C dL_law_1003 ?_
  refine at_sld C hX hbl hbA hi2 dL_law_1004 ?_
  refine at_Vi C (As := [.int (xs (y3 + (1 : Int32)).toNatClampNeg), .int (xs (y3 + (2 : Int32)).toNatClampNeg)]) (st := [.int r1]) (b := 30) (ci := 7) (ct_X7_heard u1 (xs (y3 + (1 : Int32)).toNatClampNeg) (xs (y3 + (2 : Int32)).toNatClampNeg) j1) mb_X7_heard ml_L_133 rfl rfl rfl (by decide) rfl (Nat.le_of_ble_eq_true rfl) dL_law_1005 ?_
  rintro r2 u2 h2
  have k2 := ok_heard hOk h1 h2
  refine at_icmp_eq C 1082 dL_law_1008 (by decide) (fun _ => ?_) (fun z => absurd (k2.2) z)
  exact hK u2 k2.1
set_option maxHeartbeats 4000000 in
set_option maxRecDepth 100000 in
theorem lc_29 {E : EV} {b L : Nat} {xs : Nat → Int32} (hL : L ≤ 2560) (C : CX E code RL 1000) (en : e_n E = 4) (hX : va_X b L xs (e_s E) (e_s E).heap) (hbl : b < (e_s E).heap.size) (hbA : ¬ e_A E b) {y3 : Int32} (hi0 : vp_in y3 L) (hi1 : vp_in (y3 + (1 : Int32)) L) (hi2 : vp_in (y3 + (2 : Int32)) L) (hi3 : vp_in (y3 + (3 : Int32)) L) (hi4 : vp_in (y3 + (4 : Int32)) L) (hK : ∀ σ, Ok σ → AT E 1082 [(0, .ref b), (1, .ref (e_q E 0)), (2, .ref (e_q E 30)), (3, .int y3)] [] σ) (σ : SS) (hOk : Ok σ) : AT E 1013 [(0, .ref b), (1, .ref (e_q E 0)), (2, .ref (e_q E 30)), (3, .int y3)] [] σ := by
  refine at_aload_n C 1 dL_law_1013 rfl ?_
  refine at_aload_n C 0 dL_law_1014 rfl ?_
  refine at_iload_n C 3 dL_law_1015 rfl ?_
  refine at_iconst C (1 : Int32) dL_law_1016 (by decide) ?_
  refine at_iadd C dL_law_1017 ?_
  refine at_sld C hX hbl hbA hi1 dL_law_1018 ?_
  refine at_aload_n C 0 dL_law_1019 rfl ?_
  refine at_iload_n C 3 dL_law_1020 rfl ?_
  refine at_iconst C (2 : Int32) dL_law_1021 (by decide) ?_
  refine at_iadd C dL_law_1022 ?_
  refine at_sld C hX hbl hbA hi2 dL_law_1023 ?_
  refine at_Vi C (As := [.int (xs (y3 + (1 : Int32)).toNatClampNeg), .int (xs (y3 + (2 : Int32)).toNatClampNeg)]) (st := []) (b := 0) (ci := 6) (ct_X6_could σ (xs (y3 + (1 : Int32)).toNatClampNeg) (xs (y3 + (2 : Int32)).toNatClampNeg) hOk.1) mb_X6_could ml_L_134 rfl rfl rfl (by decide) rfl (Nat.le_of_ble_eq_true rfl) dL_law_1024 ?_
  rintro r1 _ ⟨rfl, -, h1⟩
  refine at_pop C dL_law_1027 rfl ?_
  refine at_aload_n C 2 dL_law_1028 rfl ?_
  refine at_aload_n C 0 dL_law_1029 rfl ?_
  refine at_iload_n C 3 dL_law_1030 rfl ?_
  refine at_iconst C (1 : Int32) dL_law_1031 (by decide) ?_
  refine at_iadd C dL_law_1032 ?_
  refine at_sld C hX hbl hbA hi1 dL_law_1033 ?_
  refine at_aload_n C 0 dL_law_1034 rfl ?_
  refine at_iload_n C 3 dL_law_1035 rfl ?_
  refine at_iconst C (2 : Int32) dL_law_1036 (by decide) ?_
  refine at_iadd C dL_law_1037 ?_
  refine at_sld C hX hbl hbA hi2 dL_law_1038 ?_
  refine at_Vi C (As := [.int (xs (y3 + (1 : Int32)).toNatClampNeg), .int (xs (y3 + (2 : Int32)).toNatClampNeg)]) (st := []) (b := 30) (ci := 7) (ct_X7_could σ (xs (y3 + (1 : Int32)).toNatClampNeg) (xs (y3 + (2 : Int32)).toNatClampNeg) hOk.1) mb_X7_could ml_L_137 rfl rfl rfl (by decide) rfl (Nat.le_of_ble_eq_true rfl) dL_law_1039 ?_
  rintro r2 _ ⟨rfl, -, h2⟩
  refine at_pop C dL_law_1042 rfl ?_
  refine at_goto C 1082 dL_law_1043 (by decide) ?_
  exact hK σ hOk
set_option maxHeartbeats 4000000 in
set_option maxRecDepth 100000 in
theorem lc_30 {E : EV} {b L : Nat} {xs : Nat → Int32} (hL : L ≤ 2560) (C : CX E code RL 1000) (en : e_n E = 4) (hX : va_X b L xs (e_s E) (e_s E).heap) (hbl : b < (e_s E).heap.size) (hbA : ¬ e_A E b) {y3 : Int32} (hi0 : vp_in y3 L) (hi1 : vp_in (y3 + (1 : Int32)) L) (hi2 : vp_in (y3 + (2 : Int32)) L) (hi3 : vp_in (y3 + (3 : Int32)) L) (hi4 : vp_in (y3 + (4 : Int32)) L) (hK : ∀ σ, Ok σ → AT E 1082 [(0, .ref b), (1, .ref (e_q E 0)), (2, .ref (e_q E 30)), (3, .int y3)] [] σ) (σ : SS) (hOk : Ok σ) : AT E 1046 [(0, .ref b), (1, .ref (e_q E 0)), (2, .ref (e_q E 30)), (3, .int y3)] [] σ := by
  refine at_aload_n C 1 dL_law_1046 rfl ?_
  refine at_aload_n C 0 dL_law_1047 rfl ?_
  refine at_iload_n C 3 dL_law_1048 rfl ?_
  refine at_iconst C (1 : Int32) dL_law_1049 (by decide) ?_
  refine at_iadd C dL_law_1050 ?_
  refine at_sld C hX hbl hbA hi1 dL_law_1051 ?_
  refine at_Vi C (As := [.int (xs (y3 + (1 : Int32)).toNatClampNeg)]) (st := []) (b := 0) (ci := 6) (ct_X6_count σ (xs (y3 + (1 : Int32)).toNatClampNeg) hOk.1) mb_X6_count ml_L_138 rfl rfl rfl (by decide) rfl (Nat.le_of_ble_eq_true rfl) dL_law_1052 ?_
  rintro r1 _ ⟨rfl, -, h1⟩
  refine at_pop C dL_law_1055 rfl ?_
  refine at_aload_n C 2 dL_law_1056 rfl ?_
  refine at_aload_n C 0 dL_law_1057 rfl ?_
  refine at_iload_n C 3 dL_law_1058 rfl ?_
  refine at_iconst C (1 : Int32) dL_law_1059 (by decide) ?_
  refine at_iadd C dL_law_1060 ?_
  refine at_sld C hX hbl hbA hi1 dL_law_1061 ?_
  refine at_Vi C (As := [.int (xs (y3 + (1 : Int32)).toNatClampNeg)]) (st := []) (b := 30) (ci := 7) (ct_X7_count σ (xs (y3 + (1 : Int32)).toNatClampNeg) hOk.1) mb_X7_count ml_L_141 rfl rfl rfl (by decide) rfl (Nat.le_of_ble_eq_true rfl) dL_law_1062 ?_
  rintro r2 _ ⟨rfl, -, h2⟩
  refine at_pop C dL_law_1065 rfl ?_
  refine at_goto C 1082 dL_law_1066 (by decide) ?_
  exact hK σ hOk
set_option maxHeartbeats 4000000 in
set_option maxRecDepth 100000 in
theorem lc_31 {E : EV} {b L : Nat} {xs : Nat → Int32} (hL : L ≤ 2560) (C : CX E code RL 1000) (en : e_n E = 4) (hX : va_X b L xs (e_s E) (e_s E).heap) (hbl : b < (e_s E).heap.size) (hbA : ¬ e_A E b) {y3 : Int32} (hi0 : vp_in y3 L) (hi1 : vp_in (y3 + (1 : Int32)) L) (hi2 : vp_in (y3 + (2 : Int32)) L) (hi3 : vp_in (y3 + (3 : Int32)) L) (hi4 : vp_in (y3 + (4 : Int32)) L) (hK : ∀ σ, Ok σ → AT E 1082 [(0, .ref b), (1, .ref (e_q E 0)), (2, .ref (e_q E 30)), (3, .int y3)] [] σ) (σ : SS) (hOk : Ok σ) : AT E 1069 [(0, .ref b), (1, .ref (e_q E 0)), (2, .ref (e_q E 30)), (3, .int y3)] [] σ := by
  refine at_aload_n C 1 dL_law_1069 rfl ?_
  refine at_Vl C (As := []) (st := []) (b := 0) (ci := 6) (ct_X6_digest σ  hOk.1) mb_X6_digest ml_L_142 rfl rfl rfl (by decide) rfl (Nat.le_of_ble_eq_true rfl) dL_law_1070 ?_
  rintro r1 u1 h1
  have k1 := Ok.gd hOk h1
  refine at_pop2 C dL_law_1073 rfl ?_
  refine at_aload_n C 2 dL_law_1074 rfl ?_
  refine at_Vl C (As := []) (st := []) (b := 30) (ci := 7) (ct_X7_digest u1  k1.1) mb_X7_digest ml_L_146 rfl rfl rfl (by decide) rfl (Nat.le_of_ble_eq_true rfl) dL_law_1075 ?_
  rintro r2 u2 h2
  have k2 := Ok.gd k1 h2
  refine at_pop2 C dL_law_1078 rfl ?_
  refine at_goto C 1082 dL_law_1079 (by decide) ?_
  exact hK u2 k2
set_option maxHeartbeats 4000000 in
set_option maxRecDepth 100000 in
theorem law_loop {E : EV} {b L : Nat} {xs : Nat → Int32} (hL : L ≤ 2560) (C : CX E code RL 1000) (en : e_n E = 4) (hX : va_X b L xs (e_s E) (e_s E).heap) (hbl : b < (e_s E).heap.size) (hbA : ¬ e_A E b) (hR : ∀ (pc : Nat) (lv : List (Nat × Value)) (σ : SS), decode code pc = .ok (.ireturn, 1) → AT E pc lv [.int 1] σ) : ∀ (n : Nat) (y3 : Int32) (σ : SS), ((L : Int) - y3.toInt).toNat < n → 0 ≤ y3.toInt → y3.toInt ≤ L → Ok σ → AT E 18 [(0, .ref b), (1, .ref (e_q E 0)), (2, .ref (e_q E 30)), (3, .int y3)] [] σ := by
  intro n
  induction n with
  | zero => intro y3 σ hm; exact absurd hm (Nat.not_lt_zero _)
  | succ n ih =>
    intro y3 σ hm h0 h1 hOk
    have hn3 : 3 < e_n E := by rw [en]; decide
    have eL : (Int32.ofNat L).toInt = (L : Int) := nI_toInt (n := L) (by omega)
    have e5 : (Int32.ofNat L - 5).toInt = (L : Int) - 5 := by
      rw [ti_sub (a := (L : Int)) (b := (L : Int)) (x := Int32.ofNat L) ⟨by rw [eL]; exact Int.le_refl _, by rw [eL]; exact Int.le_refl _⟩ (iv_c (c := 5) (x := (5 : Int32)) (by decide)) (by omega) (by omega), eL]; rfl
    refine at_iload_n C 3 dL_law_18 rfl ?_
    refine at_aload_n C 0 dL_law_19 rfl ?_
    refine at_slen C hX hbl hbA dL_law_20 ?_
    refine at_iconst C (5 : Int32) dL_law_21 (by decide) ?_
    refine at_isub C dL_law_22 ?_
    refine at_icmp_gt C 1088 dL_law_23 (by decide) (fun c1 => ?_) (fun c1 => ?_)
    · refine at_iconst C (1 : Int32) dL_law_1088 (by decide) ?_
      exact hR _ _ _ dL_law_1089
    · have c2 := iv_nlt c1
      rw [e5] at c2
      have hy : iv 0 2555 y3 := ⟨h0, by omega⟩
      have hi0 : vp_in y3 L := vp_in_iff.mpr ⟨h0, by omega⟩
      have t1 := ac_ti1 hy (iv_c (c := 1) (x := (1 : Int32)) (by decide)) (by decide) (by decide) (by decide)
      have hi1 : vp_in (y3 + (1 : Int32)) L := vp_in_iff.mpr ⟨by omega, by omega⟩
      have t2 := ac_ti1 hy (iv_c (c := 2) (x := (2 : Int32)) (by decide)) (by decide) (by decide) (by decide)
      have hi2 : vp_in (y3 + (2 : Int32)) L := vp_in_iff.mpr ⟨by omega, by omega⟩
      have t3 := ac_ti1 hy (iv_c (c := 3) (x := (3 : Int32)) (by decide)) (by decide) (by decide) (by decide)
      have hi3 : vp_in (y3 + (3 : Int32)) L := vp_in_iff.mpr ⟨by omega, by omega⟩
      have t4 := ac_ti1 hy (iv_c (c := 4) (x := (4 : Int32)) (by decide)) (by decide) (by decide) (by decide)
      have hi4 : vp_in (y3 + (4 : Int32)) L := vp_in_iff.mpr ⟨by omega, by omega⟩
      have t5 := ac_ti1 hy (iv_c (c := 5) (x := (5 : Int32)) (by decide)) (by decide) (by decide) (by decide)
      have hK : ∀ σ, Ok σ → AT E 1082 [(0, .ref b), (1, .ref (e_q E 0)), (2, .ref (e_q E 30)), (3, .int y3)] [] σ := by
        intro σ hOk
        refine at_iinc C (v := (y3 + (5 : Int32))) (lv' := [(3, .int (y3 + (5 : Int32))), (0, .ref b), (1, .ref (e_q E 0)), (2, .ref (e_q E 30))]) 3 dL_law_1082 rfl rfl hn3 rfl ?_
        refine at_goto C 18 dL_law_1085 (by decide) ?_
        exact at_sub [1, 2, 3, 0] rfl (ih (y3 + (5 : Int32)) σ (by omega) (by omega) (by omega) hOk)
      refine at_aload_n C 0 dL_law_26 rfl ?_
      refine at_iload_n C 3 dL_law_27 rfl ?_
      refine at_sld C hX hbl hbA hi0 dL_law_28 ?_
      refine at_bipush C (31 : Int32) dL_law_29 (by decide) ?_
      refine at_iand C dL_law_31 ?_
      have hv : iv 0 31 (xs y3.toNatClampNeg &&& 31) := iv_andr (iv_wk (c := 0) (iv_c (c := 31) (x := (31 : Int32)) (by decide)) (by decide) (Int.le_refl _))
      obtain ⟨k, ek, ek2, hk⟩ := nI_iv hv
      have hk32 : k < 32 := by have := hv.2; omega
      rw [ek]
      by_cases c0_ : k = 0
      · subst c0_; exact at_tabIn C 176 dL_law_32 (by decide) (by decide) rfl (by decide) (lc_0 hL C en hX hbl hbA hi0 hi1 hi2 hi3 hi4 hK σ hOk)
      by_cases c1_ : k = 1
      · subst c1_; exact at_tabIn C 189 dL_law_32 (by decide) (by decide) rfl (by decide) (lc_1 hL C en hX hbl hbA hi0 hi1 hi2 hi3 hi4 hK σ hOk)
      by_cases c2_ : k = 2
      · subst c2_; exact at_tabIn C 212 dL_law_32 (by decide) (by decide) rfl (by decide) (lc_2 hL C en hX hbl hbA hi0 hi1 hi2 hi3 hi4 hK σ hOk)
      by_cases c3_ : k = 3
      · subst c3_; exact at_tabIn C 255 dL_law_32 (by decide) (by decide) rfl (by decide) (lc_3 hL C en hX hbl hbA hi0 hi1 hi2 hi3 hi4 hK σ hOk)
      by_cases c4_ : k = 4
      · subst c4_; exact at_tabIn C 288 dL_law_32 (by decide) (by decide) rfl (by decide) (lc_4 hL C en hX hbl hbA hi0 hi1 hi2 hi3 hi4 hK σ hOk)
      by_cases c5_ : k = 5
      · subst c5_; exact at_tabIn C 311 dL_law_32 (by decide) (by decide) rfl (by decide) (lc_5 hL C en hX hbl hbA hi0 hi1 hi2 hi3 hi4 hK σ hOk)
      by_cases c6_ : k = 6
      · subst c6_; exact at_tabIn C 334 dL_law_32 (by decide) (by decide) rfl (by decide) (lc_6 hL C en hX hbl hbA hi0 hi1 hi2 hi3 hi4 hK σ hOk)
      by_cases c7_ : k = 7
      · subst c7_; exact at_tabIn C 357 dL_law_32 (by decide) (by decide) rfl (by decide) (lc_7 hL C en hX hbl hbA hi0 hi1 hi2 hi3 hi4 hK σ hOk)
      by_cases c8_ : k = 8
      · subst c8_; exact at_tabIn C 390 dL_law_32 (by decide) (by decide) rfl (by decide) (lc_8 hL C en hX hbl hbA hi0 hi1 hi2 hi3 hi4 hK σ hOk)
      by_cases c9_ : k = 9
      · subst c9_; exact at_tabIn C 413 dL_law_32 (by decide) (by decide) rfl (by decide) (lc_9 hL C en hX hbl hbA hi0 hi1 hi2 hi3 hi4 hK σ hOk)
      by_cases c10_ : k = 10
      · subst c10_; exact at_tabIn C 436 dL_law_32 (by decide) (by decide) rfl (by decide) (lc_10 hL C en hX hbl hbA hi0 hi1 hi2 hi3 hi4 hK σ hOk)
      by_cases c11_ : k = 11
      · subst c11_; exact at_tabIn C 479 dL_law_32 (by decide) (by decide) rfl (by decide) (lc_11 hL C en hX hbl hbA hi0 hi1 hi2 hi3 hi4 hK σ hOk)
      by_cases c12_ : k = 12
      · subst c12_; exact at_tabIn C 512 dL_law_32 (by decide) (by decide) rfl (by decide) (lc_12 hL C en hX hbl hbA hi0 hi1 hi2 hi3 hi4 hK σ hOk)
      by_cases c13_ : k = 13
      · subst c13_; exact at_tabIn C 535 dL_law_32 (by decide) (by decide) rfl (by decide) (lc_13 hL C en hX hbl hbA hi0 hi1 hi2 hi3 hi4 hK σ hOk)
      by_cases c14_ : k = 14
      · subst c14_; exact at_tabIn C 558 dL_law_32 (by decide) (by decide) rfl (by decide) (lc_14 hL C en hX hbl hbA hi0 hi1 hi2 hi3 hi4 hK σ hOk)
      by_cases c15_ : k = 15
      · subst c15_; exact at_tabIn C 581 dL_law_32 (by decide) (by decide) rfl (by decide) (lc_15 hL C en hX hbl hbA hi0 hi1 hi2 hi3 hi4 hK σ hOk)
      by_cases c16_ : k = 16
      · subst c16_; exact at_tabIn C 614 dL_law_32 (by decide) (by decide) rfl (by decide) (lc_16 hL C en hX hbl hbA hi0 hi1 hi2 hi3 hi4 hK σ hOk)
      by_cases c17_ : k = 17
      · subst c17_; exact at_tabIn C 667 dL_law_32 (by decide) (by decide) rfl (by decide) (lc_17 hL C en hX hbl hbA hi0 hi1 hi2 hi3 hi4 hK σ hOk)
      by_cases c18_ : k = 18
      · subst c18_; exact at_tabIn C 680 dL_law_32 (by decide) (by decide) rfl (by decide) (lc_18 hL C en hX hbl hbA hi0 hi1 hi2 hi3 hi4 hK σ hOk)
      by_cases c19_ : k = 19
      · subst c19_; exact at_tabIn C 723 dL_law_32 (by decide) (by decide) rfl (by decide) (lc_19 hL C en hX hbl hbA hi0 hi1 hi2 hi3 hi4 hK σ hOk)
      by_cases c20_ : k = 20
      · subst c20_; exact at_tabIn C 756 dL_law_32 (by decide) (by decide) rfl (by decide) (lc_20 hL C en hX hbl hbA hi0 hi1 hi2 hi3 hi4 hK σ hOk)
      by_cases c21_ : k = 21
      · subst c21_; exact at_tabIn C 779 dL_law_32 (by decide) (by decide) rfl (by decide) (lc_21 hL C en hX hbl hbA hi0 hi1 hi2 hi3 hi4 hK σ hOk)
      by_cases c22_ : k = 22
      · subst c22_; exact at_tabIn C 812 dL_law_32 (by decide) (by decide) rfl (by decide) (lc_22 hL C en hX hbl hbA hi0 hi1 hi2 hi3 hi4 hK σ hOk)
      by_cases c23_ : k = 23
      · subst c23_; exact at_tabIn C 835 dL_law_32 (by decide) (by decide) rfl (by decide) (lc_23 hL C en hX hbl hbA hi0 hi1 hi2 hi3 hi4 hK σ hOk)
      by_cases c24_ : k = 24
      · subst c24_; exact at_tabIn C 848 dL_law_32 (by decide) (by decide) rfl (by decide) (lc_24 hL C en hX hbl hbA hi0 hi1 hi2 hi3 hi4 hK σ hOk)
      by_cases c25_ : k = 25
      · subst c25_; exact at_tabIn C 891 dL_law_32 (by decide) (by decide) rfl (by decide) (lc_25 hL C en hX hbl hbA hi0 hi1 hi2 hi3 hi4 hK σ hOk)
      by_cases c26_ : k = 26
      · subst c26_; exact at_tabIn C 924 dL_law_32 (by decide) (by decide) rfl (by decide) (lc_26 hL C en hX hbl hbA hi0 hi1 hi2 hi3 hi4 hK σ hOk)
      by_cases c27_ : k = 27
      · subst c27_; exact at_tabIn C 957 dL_law_32 (by decide) (by decide) rfl (by decide) (lc_27 hL C en hX hbl hbA hi0 hi1 hi2 hi3 hi4 hK σ hOk)
      by_cases c28_ : k = 28
      · subst c28_; exact at_tabIn C 980 dL_law_32 (by decide) (by decide) rfl (by decide) (lc_28 hL C en hX hbl hbA hi0 hi1 hi2 hi3 hi4 hK σ hOk)
      by_cases c29_ : k = 29
      · subst c29_; exact at_tabIn C 1013 dL_law_32 (by decide) (by decide) rfl (by decide) (lc_29 hL C en hX hbl hbA hi0 hi1 hi2 hi3 hi4 hK σ hOk)
      by_cases c30_ : k = 30
      · subst c30_; exact at_tabIn C 1046 dL_law_32 (by decide) (by decide) rfl (by decide) (lc_30 hL C en hX hbl hbA hi0 hi1 hi2 hi3 hi4 hK σ hOk)
      by_cases c31_ : k = 31
      · subst c31_; exact at_tabIn C 1069 dL_law_32 (by decide) (by decide) rfl (by decide) (lc_31 hL C en hX hbl hbA hi0 hi1 hi2 hi3 hi4 hK σ hOk)
      exact absurd hk32 (by omega)
