/-! One call on a new object. -/
theorem bar0 {u v : SS} {x1 x2 r1 r2 : Int32} (h1 : po_X6_bar ac_s0 x1 x2 r1 u) (h2 : po_X7_bar u x1 x2 r2 v) : r1 = r2 := by
  have z0 : (ac_gi ac_s0 0).toInt = 0 := by decide +kernel
  have z15 : (ac_gi ac_s0 15).toInt = 0 := by decide +kernel
  rcases h1 with ⟨p1, rfl, rfl, i1⟩ | ⟨p1, rfl, rfl, i1⟩
  · rcases h2 with ⟨p2, rfl, rfl, i2⟩ | ⟨p2, rfl, rfl, i2⟩
    · rfl
    · exfalso
      have p2 : pc_X7_bar_1 ac_s0 x1 x2 := p2
      omega
  · exfalso
    have p1 : pc_X6_bar_1 ac_s0 x1 x2 := p1
    omega
set_option maxHeartbeats 4000000 in
set_option maxRecDepth 100000 in
theorem lc_0 {E : EV} {b L : Nat} {xs : Nat → Int32} (hL : L ≤ 5) (C : CX E code RL 1000) (en : e_n E = 4) (hX : va_X b L xs (e_s E) (e_s E).heap) (hbl : b < (e_s E).heap.size) (hbA : ¬ e_A E b) {y3 : Int32} (hi0 : vp_in y3 L) (hi1 : vp_in (y3 + (1 : Int32)) L) (hi2 : vp_in (y3 + (2 : Int32)) L) (hi3 : vp_in (y3 + (3 : Int32)) L) (hi4 : vp_in (y3 + (4 : Int32)) L) (hK : ∀ σ, AT E 1083 [(0, .ref b), (1, .ref (e_q E 0)), (2, .ref (e_q E 30)), (3, .int y3)] [] σ) : AT E 176 [(0, .ref b), (1, .ref (e_q E 0)), (2, .ref (e_q E 30)), (3, .int y3)] [] ac_s0 := by
  refine at_aload_n C 1 dL_law_176 rfl ?_
  refine at_Vi C (As := []) (st := []) (b := 0) (ci := 6) (ct_X6_mast ac_s0  s0_inv) mb_X6_mast ml_L_13 rfl rfl rfl (by decide) rfl (Nat.le_of_ble_eq_true rfl) dL_law_177 ?_
  rintro r1 u1 h1
  have j1 := pi_X6_mast h1
  refine at_aload_n C 2 dL_law_180 rfl ?_
  refine at_Vi C (As := []) (st := [.int r1]) (b := 30) (ci := 7) (ct_X7_mast u1  j1) mb_X7_mast ml_L_17 rfl rfl rfl (by decide) rfl (Nat.le_of_ble_eq_true rfl) dL_law_181 ?_
  rintro r2 u2 h2
  refine at_icmp_eq C 1083 dL_law_184 (by decide) (fun _ => ?_) (fun z => absurd ((ok_mast s0_ok h1 h2).2) z)
  exact hK _
set_option maxHeartbeats 4000000 in
set_option maxRecDepth 100000 in
theorem lc_1 {E : EV} {b L : Nat} {xs : Nat → Int32} (hL : L ≤ 5) (C : CX E code RL 1000) (en : e_n E = 4) (hX : va_X b L xs (e_s E) (e_s E).heap) (hbl : b < (e_s E).heap.size) (hbA : ¬ e_A E b) {y3 : Int32} (hi0 : vp_in y3 L) (hi1 : vp_in (y3 + (1 : Int32)) L) (hi2 : vp_in (y3 + (2 : Int32)) L) (hi3 : vp_in (y3 + (3 : Int32)) L) (hi4 : vp_in (y3 + (4 : Int32)) L) (hK : ∀ σ, AT E 1083 [(0, .ref b), (1, .ref (e_q E 0)), (2, .ref (e_q E 30)), (3, .int y3)] [] σ) : AT E 189 [(0, .ref b), (1, .ref (e_q E 0)), (2, .ref (e_q E 30)), (3, .int y3)] [] ac_s0 := by
  refine at_aload_n C 1 dL_law_189 rfl ?_
  refine at_aload_n C 0 dL_law_190 rfl ?_
  refine at_iload_n C 3 dL_law_191 rfl ?_
  refine at_iconst C (1 : Int32) dL_law_192 (by decide) ?_
  refine at_iadd C dL_law_193 ?_
  refine at_sld C hX hbl hbA hi1 dL_law_194 ?_
  refine at_Vi C (As := [.int (xs (y3 + (1 : Int32)).toNatClampNeg)]) (st := []) (b := 0) (ci := 6) (ct_X6_channels ac_s0 (xs (y3 + (1 : Int32)).toNatClampNeg) s0_inv) mb_X6_channels ml_L_18 rfl rfl rfl (by decide) rfl (Nat.le_of_ble_eq_true rfl) dL_law_195 ?_
  rintro r1 u1 h1
  have j1 := pi_X6_channels h1
  refine at_aload_n C 2 dL_law_198 rfl ?_
  refine at_aload_n C 0 dL_law_199 rfl ?_
  refine at_iload_n C 3 dL_law_200 rfl ?_
  refine at_iconst C (1 : Int32) dL_law_201 (by decide) ?_
  refine at_iadd C dL_law_202 ?_
  refine at_sld C hX hbl hbA hi1 dL_law_203 ?_
  refine at_Vi C (As := [.int (xs (y3 + (1 : Int32)).toNatClampNeg)]) (st := [.int r1]) (b := 30) (ci := 7) (ct_X7_channels u1 (xs (y3 + (1 : Int32)).toNatClampNeg) j1) mb_X7_channels ml_L_22 rfl rfl rfl (by decide) rfl (Nat.le_of_ble_eq_true rfl) dL_law_204 ?_
  rintro r2 u2 h2
  refine at_icmp_eq C 1083 dL_law_207 (by decide) (fun _ => ?_) (fun z => absurd ((ok_channels s0_ok h1 h2).2) z)
  exact hK _
set_option maxHeartbeats 4000000 in
set_option maxRecDepth 100000 in
theorem lc_2 {E : EV} {b L : Nat} {xs : Nat → Int32} (hL : L ≤ 5) (C : CX E code RL 1000) (en : e_n E = 4) (hX : va_X b L xs (e_s E) (e_s E).heap) (hbl : b < (e_s E).heap.size) (hbA : ¬ e_A E b) {y3 : Int32} (hi0 : vp_in y3 L) (hi1 : vp_in (y3 + (1 : Int32)) L) (hi2 : vp_in (y3 + (2 : Int32)) L) (hi3 : vp_in (y3 + (3 : Int32)) L) (hi4 : vp_in (y3 + (4 : Int32)) L) (hK : ∀ σ, AT E 1083 [(0, .ref b), (1, .ref (e_q E 0)), (2, .ref (e_q E 30)), (3, .int y3)] [] σ) : AT E 212 [(0, .ref b), (1, .ref (e_q E 0)), (2, .ref (e_q E 30)), (3, .int y3)] [] ac_s0 := by
  refine at_aload_n C 1 dL_law_212 rfl ?_
  refine at_aload_n C 0 dL_law_213 rfl ?_
  refine at_iload_n C 3 dL_law_214 rfl ?_
  refine at_iconst C (1 : Int32) dL_law_215 (by decide) ?_
  refine at_iadd C dL_law_216 ?_
  refine at_sld C hX hbl hbA hi1 dL_law_217 ?_
  refine at_aload_n C 0 dL_law_218 rfl ?_
  refine at_iload_n C 3 dL_law_219 rfl ?_
  refine at_iconst C (2 : Int32) dL_law_220 (by decide) ?_
  refine at_iadd C dL_law_221 ?_
  refine at_sld C hX hbl hbA hi2 dL_law_222 ?_
  refine at_aload_n C 0 dL_law_223 rfl ?_
  refine at_iload_n C 3 dL_law_224 rfl ?_
  refine at_iconst C (3 : Int32) dL_law_225 (by decide) ?_
  refine at_iadd C dL_law_226 ?_
  refine at_sld C hX hbl hbA hi3 dL_law_227 ?_
  refine at_Vi C (As := [.int (xs (y3 + (1 : Int32)).toNatClampNeg), .int (xs (y3 + (2 : Int32)).toNatClampNeg), .int (xs (y3 + (3 : Int32)).toNatClampNeg)]) (st := []) (b := 0) (ci := 6) (ct_X6_pair ac_s0 (xs (y3 + (1 : Int32)).toNatClampNeg) (xs (y3 + (2 : Int32)).toNatClampNeg) (xs (y3 + (3 : Int32)).toNatClampNeg) s0_inv) mb_X6_pair ml_L_23 rfl rfl rfl (by decide) rfl (Nat.le_of_ble_eq_true rfl) dL_law_228 ?_
  rintro r1 u1 h1
  have j1 := pi_X6_pair h1
  refine at_aload_n C 2 dL_law_231 rfl ?_
  refine at_aload_n C 0 dL_law_232 rfl ?_
  refine at_iload_n C 3 dL_law_233 rfl ?_
  refine at_iconst C (1 : Int32) dL_law_234 (by decide) ?_
  refine at_iadd C dL_law_235 ?_
  refine at_sld C hX hbl hbA hi1 dL_law_236 ?_
  refine at_aload_n C 0 dL_law_237 rfl ?_
  refine at_iload_n C 3 dL_law_238 rfl ?_
  refine at_iconst C (2 : Int32) dL_law_239 (by decide) ?_
  refine at_iadd C dL_law_240 ?_
  refine at_sld C hX hbl hbA hi2 dL_law_241 ?_
  refine at_aload_n C 0 dL_law_242 rfl ?_
  refine at_iload_n C 3 dL_law_243 rfl ?_
  refine at_iconst C (3 : Int32) dL_law_244 (by decide) ?_
  refine at_iadd C dL_law_245 ?_
  refine at_sld C hX hbl hbA hi3 dL_law_246 ?_
  refine at_Vi C (As := [.int (xs (y3 + (1 : Int32)).toNatClampNeg), .int (xs (y3 + (2 : Int32)).toNatClampNeg), .int (xs (y3 + (3 : Int32)).toNatClampNeg)]) (st := [.int r1]) (b := 30) (ci := 7) (ct_X7_pair u1 (xs (y3 + (1 : Int32)).toNatClampNeg) (xs (y3 + (2 : Int32)).toNatClampNeg) (xs (y3 + (3 : Int32)).toNatClampNeg) j1) mb_X7_pair ml_L_27 rfl rfl rfl (by decide) rfl (Nat.le_of_ble_eq_true rfl) dL_law_247 ?_
  rintro r2 u2 h2
  refine at_icmp_eq C 1083 dL_law_250 (by decide) (fun _ => ?_) (fun z => absurd ((ok_pair s0_ok h1 h2).2) z)
  exact hK _
set_option maxHeartbeats 4000000 in
set_option maxRecDepth 100000 in
theorem lc_3 {E : EV} {b L : Nat} {xs : Nat → Int32} (hL : L ≤ 5) (C : CX E code RL 1000) (en : e_n E = 4) (hX : va_X b L xs (e_s E) (e_s E).heap) (hbl : b < (e_s E).heap.size) (hbA : ¬ e_A E b) {y3 : Int32} (hi0 : vp_in y3 L) (hi1 : vp_in (y3 + (1 : Int32)) L) (hi2 : vp_in (y3 + (2 : Int32)) L) (hi3 : vp_in (y3 + (3 : Int32)) L) (hi4 : vp_in (y3 + (4 : Int32)) L) (hK : ∀ σ, AT E 1083 [(0, .ref b), (1, .ref (e_q E 0)), (2, .ref (e_q E 30)), (3, .int y3)] [] σ) : AT E 255 [(0, .ref b), (1, .ref (e_q E 0)), (2, .ref (e_q E 30)), (3, .int y3)] [] ac_s0 := by
  refine at_aload_n C 1 dL_law_255 rfl ?_
  refine at_aload_n C 0 dL_law_256 rfl ?_
  refine at_iload_n C 3 dL_law_257 rfl ?_
  refine at_iconst C (1 : Int32) dL_law_258 (by decide) ?_
  refine at_iadd C dL_law_259 ?_
  refine at_sld C hX hbl hbA hi1 dL_law_260 ?_
  refine at_aload_n C 0 dL_law_261 rfl ?_
  refine at_iload_n C 3 dL_law_262 rfl ?_
  refine at_iconst C (2 : Int32) dL_law_263 (by decide) ?_
  refine at_iadd C dL_law_264 ?_
  refine at_sld C hX hbl hbA hi2 dL_law_265 ?_
  refine at_Vi C (As := [.int (xs (y3 + (1 : Int32)).toNatClampNeg), .int (xs (y3 + (2 : Int32)).toNatClampNeg)]) (st := []) (b := 0) (ci := 6) (ct_X6_bar ac_s0 (xs (y3 + (1 : Int32)).toNatClampNeg) (xs (y3 + (2 : Int32)).toNatClampNeg) s0_inv) mb_X6_bar ml_L_28 rfl rfl rfl (by decide) rfl (Nat.le_of_ble_eq_true rfl) dL_law_266 ?_
  rintro r1 u1 h1
  have j1 := pi_X6_bar h1
  refine at_aload_n C 2 dL_law_269 rfl ?_
  refine at_aload_n C 0 dL_law_270 rfl ?_
  refine at_iload_n C 3 dL_law_271 rfl ?_
  refine at_iconst C (1 : Int32) dL_law_272 (by decide) ?_
  refine at_iadd C dL_law_273 ?_
  refine at_sld C hX hbl hbA hi1 dL_law_274 ?_
  refine at_aload_n C 0 dL_law_275 rfl ?_
  refine at_iload_n C 3 dL_law_276 rfl ?_
  refine at_iconst C (2 : Int32) dL_law_277 (by decide) ?_
  refine at_iadd C dL_law_278 ?_
  refine at_sld C hX hbl hbA hi2 dL_law_279 ?_
  refine at_Vi C (As := [.int (xs (y3 + (1 : Int32)).toNatClampNeg), .int (xs (y3 + (2 : Int32)).toNatClampNeg)]) (st := [.int r1]) (b := 30) (ci := 7) (ct_X7_bar u1 (xs (y3 + (1 : Int32)).toNatClampNeg) (xs (y3 + (2 : Int32)).toNatClampNeg) j1) mb_X7_bar ml_L_32 rfl rfl rfl (by decide) rfl (Nat.le_of_ble_eq_true rfl) dL_law_280 ?_
  rintro r2 u2 h2
  refine at_icmp_eq C 1083 dL_law_283 (by decide) (fun _ => ?_) (fun z => absurd (bar0 h1 h2) z)
  exact hK _
set_option maxHeartbeats 4000000 in
set_option maxRecDepth 100000 in
theorem lc_4 {E : EV} {b L : Nat} {xs : Nat → Int32} (hL : L ≤ 5) (C : CX E code RL 1000) (en : e_n E = 4) (hX : va_X b L xs (e_s E) (e_s E).heap) (hbl : b < (e_s E).heap.size) (hbA : ¬ e_A E b) {y3 : Int32} (hi0 : vp_in y3 L) (hi1 : vp_in (y3 + (1 : Int32)) L) (hi2 : vp_in (y3 + (2 : Int32)) L) (hi3 : vp_in (y3 + (3 : Int32)) L) (hi4 : vp_in (y3 + (4 : Int32)) L) (hK : ∀ σ, AT E 1083 [(0, .ref b), (1, .ref (e_q E 0)), (2, .ref (e_q E 30)), (3, .int y3)] [] σ) : AT E 288 [(0, .ref b), (1, .ref (e_q E 0)), (2, .ref (e_q E 30)), (3, .int y3)] [] ac_s0 := by
  refine at_aload_n C 1 dL_law_288 rfl ?_
  refine at_aload_n C 0 dL_law_289 rfl ?_
  refine at_iload_n C 3 dL_law_290 rfl ?_
  refine at_iconst C (1 : Int32) dL_law_291 (by decide) ?_
  refine at_iadd C dL_law_292 ?_
  refine at_sld C hX hbl hbA hi1 dL_law_293 ?_
  refine at_Vi C (As := [.int (xs (y3 + (1 : Int32)).toNatClampNeg)]) (st := []) (b := 0) (ci := 6) (ct_X6_limit ac_s0 (xs (y3 + (1 : Int32)).toNatClampNeg) s0_inv) mb_X6_limit ml_L_33 rfl rfl rfl (by decide) rfl (Nat.le_of_ble_eq_true rfl) dL_law_294 ?_
  rintro r1 u1 h1
  have j1 := pi_X6_limit h1
  refine at_aload_n C 2 dL_law_297 rfl ?_
  refine at_aload_n C 0 dL_law_298 rfl ?_
  refine at_iload_n C 3 dL_law_299 rfl ?_
  refine at_iconst C (1 : Int32) dL_law_300 (by decide) ?_
  refine at_iadd C dL_law_301 ?_
  refine at_sld C hX hbl hbA hi1 dL_law_302 ?_
  refine at_Vi C (As := [.int (xs (y3 + (1 : Int32)).toNatClampNeg)]) (st := [.int r1]) (b := 30) (ci := 7) (ct_X7_limit u1 (xs (y3 + (1 : Int32)).toNatClampNeg) j1) mb_X7_limit ml_L_36 rfl rfl rfl (by decide) rfl (Nat.le_of_ble_eq_true rfl) dL_law_303 ?_
  rintro r2 u2 h2
  refine at_icmp_eq C 1083 dL_law_306 (by decide) (fun _ => ?_) (fun z => absurd ((ok_limit s0_ok h1 h2).2) z)
  exact hK _
set_option maxHeartbeats 4000000 in
set_option maxRecDepth 100000 in
theorem lc_5 {E : EV} {b L : Nat} {xs : Nat → Int32} (hL : L ≤ 5) (C : CX E code RL 1000) (en : e_n E = 4) (hX : va_X b L xs (e_s E) (e_s E).heap) (hbl : b < (e_s E).heap.size) (hbA : ¬ e_A E b) {y3 : Int32} (hi0 : vp_in y3 L) (hi1 : vp_in (y3 + (1 : Int32)) L) (hi2 : vp_in (y3 + (2 : Int32)) L) (hi3 : vp_in (y3 + (3 : Int32)) L) (hi4 : vp_in (y3 + (4 : Int32)) L) (hK : ∀ σ, AT E 1083 [(0, .ref b), (1, .ref (e_q E 0)), (2, .ref (e_q E 30)), (3, .int y3)] [] σ) : AT E 311 [(0, .ref b), (1, .ref (e_q E 0)), (2, .ref (e_q E 30)), (3, .int y3)] [] ac_s0 := by
  refine at_aload_n C 1 dL_law_311 rfl ?_
  refine at_aload_n C 0 dL_law_312 rfl ?_
  refine at_iload_n C 3 dL_law_313 rfl ?_
  refine at_iconst C (1 : Int32) dL_law_314 (by decide) ?_
  refine at_iadd C dL_law_315 ?_
  refine at_sld C hX hbl hbA hi1 dL_law_316 ?_
  refine at_Vi C (As := [.int (xs (y3 + (1 : Int32)).toNatClampNeg)]) (st := []) (b := 0) (ci := 6) (cz_X6_fits ac_s0 (xs (y3 + (1 : Int32)).toNatClampNeg) s0_inv ⟨by decide +kernel, by decide +kernel⟩) mb_X6_fits ml_L_37 rfl rfl rfl (by decide) rfl (Nat.le_of_ble_eq_true rfl) dL_law_317 ?_
  rintro _ _ (⟨c1_0, rfl, rfl, j1⟩ | ⟨c1_0, rfl, rfl, j1⟩)
  · refine at_aload_n C 2 dL_law_320 rfl ?_
    refine at_aload_n C 0 dL_law_321 rfl ?_
    refine at_iload_n C 3 dL_law_322 rfl ?_
    refine at_iconst C (1 : Int32) dL_law_323 (by decide) ?_
    refine at_iadd C dL_law_324 ?_
    refine at_sld C hX hbl hbA hi1 dL_law_325 ?_
    refine at_Vi C (As := [.int (xs (y3 + (1 : Int32)).toNatClampNeg)]) (st := [.int (-2 : Int32)]) (b := 30) (ci := 7) (cz_X7_fits ac_s0 (xs (y3 + (1 : Int32)).toNatClampNeg) j1 ⟨by decide +kernel, by decide +kernel⟩) mb_X7_fits ml_L_40 rfl rfl rfl (by decide) rfl (Nat.le_of_ble_eq_true rfl) dL_law_326 ?_
    rintro _ _ (⟨c2_0, rfl, rfl, j2⟩ | ⟨c2_0, rfl, rfl, j2⟩)
    · refine at_icmp_eq C 1083 dL_law_329 (by decide) (fun _ => ?_) (fun z => absurd (rfl) z)
      exact hK _
    · exact absurd c2_0 c1_0
  · refine at_aload_n C 2 dL_law_320 rfl ?_
    refine at_aload_n C 0 dL_law_321 rfl ?_
    refine at_iload_n C 3 dL_law_322 rfl ?_
    refine at_iconst C (1 : Int32) dL_law_323 (by decide) ?_
    refine at_iadd C dL_law_324 ?_
    refine at_sld C hX hbl hbA hi1 dL_law_325 ?_
    refine at_Vi C (As := [.int (xs (y3 + (1 : Int32)).toNatClampNeg)]) (st := [.int (1 : Int32)]) (b := 30) (ci := 7) (cz_X7_fits ((ac_si (ac_si ac_s0 11 (0 : Int32)) 10 (0 : Int32))) (xs (y3 + (1 : Int32)).toNatClampNeg) j1 ⟨by decide +kernel, by decide +kernel⟩) mb_X7_fits ml_L_40 rfl rfl rfl (by decide) rfl (Nat.le_of_ble_eq_true rfl) dL_law_326 ?_
    rintro _ _ (⟨c2_0, rfl, rfl, j2⟩ | ⟨c2_0, rfl, rfl, j2⟩)
    · exact absurd c1_0 c2_0
    · refine at_icmp_eq C 1083 dL_law_329 (by decide) (fun _ => ?_) (fun z => absurd (rfl) z)
      exact hK _
set_option maxHeartbeats 4000000 in
set_option maxRecDepth 100000 in
theorem lc_6 {E : EV} {b L : Nat} {xs : Nat → Int32} (hL : L ≤ 5) (C : CX E code RL 1000) (en : e_n E = 4) (hX : va_X b L xs (e_s E) (e_s E).heap) (hbl : b < (e_s E).heap.size) (hbA : ¬ e_A E b) {y3 : Int32} (hi0 : vp_in y3 L) (hi1 : vp_in (y3 + (1 : Int32)) L) (hi2 : vp_in (y3 + (2 : Int32)) L) (hi3 : vp_in (y3 + (3 : Int32)) L) (hi4 : vp_in (y3 + (4 : Int32)) L) (hK : ∀ σ, AT E 1083 [(0, .ref b), (1, .ref (e_q E 0)), (2, .ref (e_q E 30)), (3, .int y3)] [] σ) : AT E 334 [(0, .ref b), (1, .ref (e_q E 0)), (2, .ref (e_q E 30)), (3, .int y3)] [] ac_s0 := by
  refine at_aload_n C 1 dL_law_334 rfl ?_
  refine at_aload_n C 0 dL_law_335 rfl ?_
  refine at_iload_n C 3 dL_law_336 rfl ?_
  refine at_iconst C (1 : Int32) dL_law_337 (by decide) ?_
  refine at_iadd C dL_law_338 ?_
  refine at_sld C hX hbl hbA hi1 dL_law_339 ?_
  refine at_Vi C (As := [.int (xs (y3 + (1 : Int32)).toNatClampNeg)]) (st := []) (b := 0) (ci := 6) (cz_X6_tries ac_s0 (xs (y3 + (1 : Int32)).toNatClampNeg) s0_inv ⟨by decide +kernel, by decide +kernel⟩) mb_X6_tries ml_L_41 rfl rfl rfl (by decide) rfl (Nat.le_of_ble_eq_true rfl) dL_law_340 ?_
  rintro _ _ (⟨c1_0, rfl, rfl, j1⟩ | ⟨c1_0, rfl, rfl, j1⟩)
  · refine at_aload_n C 2 dL_law_343 rfl ?_
    refine at_aload_n C 0 dL_law_344 rfl ?_
    refine at_iload_n C 3 dL_law_345 rfl ?_
    refine at_iconst C (1 : Int32) dL_law_346 (by decide) ?_
    refine at_iadd C dL_law_347 ?_
    refine at_sld C hX hbl hbA hi1 dL_law_348 ?_
    refine at_Vi C (As := [.int (xs (y3 + (1 : Int32)).toNatClampNeg)]) (st := [.int (-2 : Int32)]) (b := 30) (ci := 7) (cz_X7_tries ac_s0 (xs (y3 + (1 : Int32)).toNatClampNeg) j1 ⟨by decide +kernel, by decide +kernel⟩) mb_X7_tries ml_L_44 rfl rfl rfl (by decide) rfl (Nat.le_of_ble_eq_true rfl) dL_law_349 ?_
    rintro _ _ (⟨c2_0, rfl, rfl, j2⟩ | ⟨c2_0, rfl, rfl, j2⟩)
    · refine at_icmp_eq C 1083 dL_law_352 (by decide) (fun _ => ?_) (fun z => absurd (rfl) z)
      exact hK _
    · exact absurd c2_0 c1_0
  · refine at_aload_n C 2 dL_law_343 rfl ?_
    refine at_aload_n C 0 dL_law_344 rfl ?_
    refine at_iload_n C 3 dL_law_345 rfl ?_
    refine at_iconst C (1 : Int32) dL_law_346 (by decide) ?_
    refine at_iadd C dL_law_347 ?_
    refine at_sld C hX hbl hbA hi1 dL_law_348 ?_
    refine at_Vi C (As := [.int (xs (y3 + (1 : Int32)).toNatClampNeg)]) (st := [.int (0 : Int32)]) (b := 30) (ci := 7) (cz_X7_tries ((ac_si (ac_si ac_s0 11 (0 : Int32)) 10 (0 : Int32))) (xs (y3 + (1 : Int32)).toNatClampNeg) j1 ⟨by decide +kernel, by decide +kernel⟩) mb_X7_tries ml_L_44 rfl rfl rfl (by decide) rfl (Nat.le_of_ble_eq_true rfl) dL_law_349 ?_
    rintro _ _ (⟨c2_0, rfl, rfl, j2⟩ | ⟨c2_0, rfl, rfl, j2⟩)
    · exact absurd c1_0 c2_0
    · refine at_icmp_eq C 1083 dL_law_352 (by decide) (fun _ => ?_) (fun z => absurd (rfl) z)
      exact hK _
set_option maxHeartbeats 4000000 in
set_option maxRecDepth 100000 in
theorem lc_7 {E : EV} {b L : Nat} {xs : Nat → Int32} (hL : L ≤ 5) (C : CX E code RL 1000) (en : e_n E = 4) (hX : va_X b L xs (e_s E) (e_s E).heap) (hbl : b < (e_s E).heap.size) (hbA : ¬ e_A E b) {y3 : Int32} (hi0 : vp_in y3 L) (hi1 : vp_in (y3 + (1 : Int32)) L) (hi2 : vp_in (y3 + (2 : Int32)) L) (hi3 : vp_in (y3 + (3 : Int32)) L) (hi4 : vp_in (y3 + (4 : Int32)) L) (hK : ∀ σ, AT E 1083 [(0, .ref b), (1, .ref (e_q E 0)), (2, .ref (e_q E 30)), (3, .int y3)] [] σ) : AT E 357 [(0, .ref b), (1, .ref (e_q E 0)), (2, .ref (e_q E 30)), (3, .int y3)] [] ac_s0 := by
  refine at_aload_n C 1 dL_law_357 rfl ?_
  refine at_aload_n C 0 dL_law_358 rfl ?_
  refine at_iload_n C 3 dL_law_359 rfl ?_
  refine at_iconst C (1 : Int32) dL_law_360 (by decide) ?_
  refine at_iadd C dL_law_361 ?_
  refine at_sld C hX hbl hbA hi1 dL_law_362 ?_
  refine at_aload_n C 0 dL_law_363 rfl ?_
  refine at_iload_n C 3 dL_law_364 rfl ?_
  refine at_iconst C (2 : Int32) dL_law_365 (by decide) ?_
  refine at_iadd C dL_law_366 ?_
  refine at_sld C hX hbl hbA hi2 dL_law_367 ?_
  refine at_Vi C (As := [.int (xs (y3 + (1 : Int32)).toNatClampNeg), .int (xs (y3 + (2 : Int32)).toNatClampNeg)]) (st := []) (b := 0) (ci := 6) (cz_X6_packing ac_s0 (xs (y3 + (1 : Int32)).toNatClampNeg) (xs (y3 + (2 : Int32)).toNatClampNeg) s0_inv ⟨by decide +kernel, by decide +kernel⟩) mb_X6_packing ml_L_45 rfl rfl rfl (by decide) rfl (Nat.le_of_ble_eq_true rfl) dL_law_368 ?_
  rintro _ _ ⟨rfl, rfl, j1⟩
  · refine at_aload_n C 2 dL_law_371 rfl ?_
    refine at_aload_n C 0 dL_law_372 rfl ?_
    refine at_iload_n C 3 dL_law_373 rfl ?_
    refine at_iconst C (1 : Int32) dL_law_374 (by decide) ?_
    refine at_iadd C dL_law_375 ?_
    refine at_sld C hX hbl hbA hi1 dL_law_376 ?_
    refine at_aload_n C 0 dL_law_377 rfl ?_
    refine at_iload_n C 3 dL_law_378 rfl ?_
    refine at_iconst C (2 : Int32) dL_law_379 (by decide) ?_
    refine at_iadd C dL_law_380 ?_
    refine at_sld C hX hbl hbA hi2 dL_law_381 ?_
    refine at_Vi C (As := [.int (xs (y3 + (1 : Int32)).toNatClampNeg), .int (xs (y3 + (2 : Int32)).toNatClampNeg)]) (st := [.int (-2 : Int32)]) (b := 30) (ci := 7) (cz_X7_packing ac_s0 (xs (y3 + (1 : Int32)).toNatClampNeg) (xs (y3 + (2 : Int32)).toNatClampNeg) j1 ⟨by decide +kernel, by decide +kernel⟩) mb_X7_packing ml_L_48 rfl rfl rfl (by decide) rfl (Nat.le_of_ble_eq_true rfl) dL_law_382 ?_
    rintro _ _ ⟨rfl, rfl, j2⟩
    · refine at_icmp_eq C 1083 dL_law_385 (by decide) (fun _ => ?_) (fun z => absurd (rfl) z)
      exact hK _
set_option maxHeartbeats 4000000 in
set_option maxRecDepth 100000 in
theorem lc_8 {E : EV} {b L : Nat} {xs : Nat → Int32} (hL : L ≤ 5) (C : CX E code RL 1000) (en : e_n E = 4) (hX : va_X b L xs (e_s E) (e_s E).heap) (hbl : b < (e_s E).heap.size) (hbA : ¬ e_A E b) {y3 : Int32} (hi0 : vp_in y3 L) (hi1 : vp_in (y3 + (1 : Int32)) L) (hi2 : vp_in (y3 + (2 : Int32)) L) (hi3 : vp_in (y3 + (3 : Int32)) L) (hi4 : vp_in (y3 + (4 : Int32)) L) (hK : ∀ σ, AT E 1083 [(0, .ref b), (1, .ref (e_q E 0)), (2, .ref (e_q E 30)), (3, .int y3)] [] σ) : AT E 390 [(0, .ref b), (1, .ref (e_q E 0)), (2, .ref (e_q E 30)), (3, .int y3)] [] ac_s0 := by
  refine at_aload_n C 1 dL_law_390 rfl ?_
  refine at_aload_n C 0 dL_law_391 rfl ?_
  refine at_iload_n C 3 dL_law_392 rfl ?_
  refine at_iconst C (1 : Int32) dL_law_393 (by decide) ?_
  refine at_iadd C dL_law_394 ?_
  refine at_sld C hX hbl hbA hi1 dL_law_395 ?_
  refine at_Vi C (As := [.int (xs (y3 + (1 : Int32)).toNatClampNeg)]) (st := []) (b := 0) (ci := 6) (cz_X6_reason ac_s0 (xs (y3 + (1 : Int32)).toNatClampNeg) s0_inv ⟨by decide +kernel, by decide +kernel⟩) mb_X6_reason ml_L_49 rfl rfl rfl (by decide) rfl (Nat.le_of_ble_eq_true rfl) dL_law_396 ?_
  rintro _ _ (⟨c1_0, rfl, rfl, j1⟩ | ⟨c1_0, rfl, rfl, j1⟩)
  · refine at_aload_n C 2 dL_law_399 rfl ?_
    refine at_aload_n C 0 dL_law_400 rfl ?_
    refine at_iload_n C 3 dL_law_401 rfl ?_
    refine at_iconst C (1 : Int32) dL_law_402 (by decide) ?_
    refine at_iadd C dL_law_403 ?_
    refine at_sld C hX hbl hbA hi1 dL_law_404 ?_
    refine at_Vi C (As := [.int (xs (y3 + (1 : Int32)).toNatClampNeg)]) (st := [.int (-2 : Int32)]) (b := 30) (ci := 7) (cz_X7_reason ac_s0 (xs (y3 + (1 : Int32)).toNatClampNeg) j1 ⟨by decide +kernel, by decide +kernel⟩) mb_X7_reason ml_L_52 rfl rfl rfl (by decide) rfl (Nat.le_of_ble_eq_true rfl) dL_law_405 ?_
    rintro _ _ (⟨c2_0, rfl, rfl, j2⟩ | ⟨c2_0, rfl, rfl, j2⟩)
    · refine at_icmp_eq C 1083 dL_law_408 (by decide) (fun _ => ?_) (fun z => absurd (rfl) z)
      exact hK _
    · exact absurd c2_0 c1_0
  · refine at_aload_n C 2 dL_law_399 rfl ?_
    refine at_aload_n C 0 dL_law_400 rfl ?_
    refine at_iload_n C 3 dL_law_401 rfl ?_
    refine at_iconst C (1 : Int32) dL_law_402 (by decide) ?_
    refine at_iadd C dL_law_403 ?_
    refine at_sld C hX hbl hbA hi1 dL_law_404 ?_
    refine at_Vi C (As := [.int (xs (y3 + (1 : Int32)).toNatClampNeg)]) (st := [.int (-3 : Int32)]) (b := 30) (ci := 7) (cz_X7_reason ac_s0 (xs (y3 + (1 : Int32)).toNatClampNeg) j1 ⟨by decide +kernel, by decide +kernel⟩) mb_X7_reason ml_L_52 rfl rfl rfl (by decide) rfl (Nat.le_of_ble_eq_true rfl) dL_law_405 ?_
    rintro _ _ (⟨c2_0, rfl, rfl, j2⟩ | ⟨c2_0, rfl, rfl, j2⟩)
    · exact absurd c1_0 c2_0
    · refine at_icmp_eq C 1083 dL_law_408 (by decide) (fun _ => ?_) (fun z => absurd (rfl) z)
      exact hK _
set_option maxHeartbeats 4000000 in
set_option maxRecDepth 100000 in
theorem lc_9 {E : EV} {b L : Nat} {xs : Nat → Int32} (hL : L ≤ 5) (C : CX E code RL 1000) (en : e_n E = 4) (hX : va_X b L xs (e_s E) (e_s E).heap) (hbl : b < (e_s E).heap.size) (hbA : ¬ e_A E b) {y3 : Int32} (hi0 : vp_in y3 L) (hi1 : vp_in (y3 + (1 : Int32)) L) (hi2 : vp_in (y3 + (2 : Int32)) L) (hi3 : vp_in (y3 + (3 : Int32)) L) (hi4 : vp_in (y3 + (4 : Int32)) L) (hK : ∀ σ, AT E 1083 [(0, .ref b), (1, .ref (e_q E 0)), (2, .ref (e_q E 30)), (3, .int y3)] [] σ) : AT E 413 [(0, .ref b), (1, .ref (e_q E 0)), (2, .ref (e_q E 30)), (3, .int y3)] [] ac_s0 := by
  refine at_aload_n C 1 dL_law_413 rfl ?_
  refine at_aload_n C 0 dL_law_414 rfl ?_
  refine at_iload_n C 3 dL_law_415 rfl ?_
  refine at_iconst C (1 : Int32) dL_law_416 (by decide) ?_
  refine at_iadd C dL_law_417 ?_
  refine at_sld C hX hbl hbA hi1 dL_law_418 ?_
  refine at_Vi C (As := [.int (xs (y3 + (1 : Int32)).toNatClampNeg)]) (st := []) (b := 0) (ci := 6) (cz_X6_spare ac_s0 (xs (y3 + (1 : Int32)).toNatClampNeg) s0_inv ⟨by decide +kernel, by decide +kernel⟩) mb_X6_spare ml_L_53 rfl rfl rfl (by decide) rfl (Nat.le_of_ble_eq_true rfl) dL_law_419 ?_
  rintro _ _ (⟨c1_0, rfl, rfl, j1⟩ | ⟨c1_0, rfl, rfl, j1⟩)
  · refine at_aload_n C 2 dL_law_422 rfl ?_
    refine at_aload_n C 0 dL_law_423 rfl ?_
    refine at_iload_n C 3 dL_law_424 rfl ?_
    refine at_iconst C (1 : Int32) dL_law_425 (by decide) ?_
    refine at_iadd C dL_law_426 ?_
    refine at_sld C hX hbl hbA hi1 dL_law_427 ?_
    refine at_Vi C (As := [.int (xs (y3 + (1 : Int32)).toNatClampNeg)]) (st := [.int (-2 : Int32)]) (b := 30) (ci := 7) (cz_X7_spare ac_s0 (xs (y3 + (1 : Int32)).toNatClampNeg) j1 ⟨by decide +kernel, by decide +kernel⟩) mb_X7_spare ml_L_56 rfl rfl rfl (by decide) rfl (Nat.le_of_ble_eq_true rfl) dL_law_428 ?_
    rintro _ _ (⟨c2_0, rfl, rfl, j2⟩ | ⟨c2_0, rfl, rfl, j2⟩)
    · refine at_icmp_eq C 1083 dL_law_431 (by decide) (fun _ => ?_) (fun z => absurd (rfl) z)
      exact hK _
    · exact absurd c2_0 c1_0
  · refine at_aload_n C 2 dL_law_422 rfl ?_
    refine at_aload_n C 0 dL_law_423 rfl ?_
    refine at_iload_n C 3 dL_law_424 rfl ?_
    refine at_iconst C (1 : Int32) dL_law_425 (by decide) ?_
    refine at_iadd C dL_law_426 ?_
    refine at_sld C hX hbl hbA hi1 dL_law_427 ?_
    refine at_Vi C (As := [.int (xs (y3 + (1 : Int32)).toNatClampNeg)]) (st := [.int (0 : Int32)]) (b := 30) (ci := 7) (cz_X7_spare ac_s0 (xs (y3 + (1 : Int32)).toNatClampNeg) j1 ⟨by decide +kernel, by decide +kernel⟩) mb_X7_spare ml_L_56 rfl rfl rfl (by decide) rfl (Nat.le_of_ble_eq_true rfl) dL_law_428 ?_
    rintro _ _ (⟨c2_0, rfl, rfl, j2⟩ | ⟨c2_0, rfl, rfl, j2⟩)
    · exact absurd c1_0 c2_0
    · refine at_icmp_eq C 1083 dL_law_431 (by decide) (fun _ => ?_) (fun z => absurd (rfl) z)
      exact hK _
set_option maxHeartbeats 4000000 in
set_option maxRecDepth 100000 in
theorem lc_10 {E : EV} {b L : Nat} {xs : Nat → Int32} (hL : L ≤ 5) (C : CX E code RL 1000) (en : e_n E = 4) (hX : va_X b L xs (e_s E) (e_s E).heap) (hbl : b < (e_s E).heap.size) (hbA : ¬ e_A E b) {y3 : Int32} (hi0 : vp_in y3 L) (hi1 : vp_in (y3 + (1 : Int32)) L) (hi2 : vp_in (y3 + (2 : Int32)) L) (hi3 : vp_in (y3 + (3 : Int32)) L) (hi4 : vp_in (y3 + (4 : Int32)) L) (hK : ∀ σ, AT E 1083 [(0, .ref b), (1, .ref (e_q E 0)), (2, .ref (e_q E 30)), (3, .int y3)] [] σ) : AT E 436 [(0, .ref b), (1, .ref (e_q E 0)), (2, .ref (e_q E 30)), (3, .int y3)] [] ac_s0 := by
  refine at_aload_n C 1 dL_law_436 rfl ?_
  refine at_aload_n C 0 dL_law_437 rfl ?_
  refine at_iload_n C 3 dL_law_438 rfl ?_
  refine at_iconst C (1 : Int32) dL_law_439 (by decide) ?_
  refine at_iadd C dL_law_440 ?_
  refine at_sld C hX hbl hbA hi1 dL_law_441 ?_
  refine at_aload_n C 0 dL_law_442 rfl ?_
  refine at_iload_n C 3 dL_law_443 rfl ?_
  refine at_iconst C (2 : Int32) dL_law_444 (by decide) ?_
  refine at_iadd C dL_law_445 ?_
  refine at_sld C hX hbl hbA hi2 dL_law_446 ?_
  refine at_aload_n C 0 dL_law_447 rfl ?_
  refine at_iload_n C 3 dL_law_448 rfl ?_
  refine at_iconst C (3 : Int32) dL_law_449 (by decide) ?_
  refine at_iadd C dL_law_450 ?_
  refine at_sld C hX hbl hbA hi3 dL_law_451 ?_
  refine at_Vi C (As := [.int (xs (y3 + (1 : Int32)).toNatClampNeg), .int (xs (y3 + (2 : Int32)).toNatClampNeg), .int (xs (y3 + (3 : Int32)).toNatClampNeg)]) (st := []) (b := 0) (ci := 6) (ct_X6_old ac_s0 (xs (y3 + (1 : Int32)).toNatClampNeg) (xs (y3 + (2 : Int32)).toNatClampNeg) (xs (y3 + (3 : Int32)).toNatClampNeg) s0_inv) mb_X6_old ml_L_57 rfl rfl rfl (by decide) rfl (Nat.le_of_ble_eq_true rfl) dL_law_452 ?_
  rintro r1 u1 h1
  have j1 := pi_X6_old h1
  refine at_aload_n C 2 dL_law_455 rfl ?_
  refine at_aload_n C 0 dL_law_456 rfl ?_
  refine at_iload_n C 3 dL_law_457 rfl ?_
  refine at_iconst C (1 : Int32) dL_law_458 (by decide) ?_
  refine at_iadd C dL_law_459 ?_
  refine at_sld C hX hbl hbA hi1 dL_law_460 ?_
  refine at_aload_n C 0 dL_law_461 rfl ?_
  refine at_iload_n C 3 dL_law_462 rfl ?_
  refine at_iconst C (2 : Int32) dL_law_463 (by decide) ?_
  refine at_iadd C dL_law_464 ?_
  refine at_sld C hX hbl hbA hi2 dL_law_465 ?_
  refine at_aload_n C 0 dL_law_466 rfl ?_
  refine at_iload_n C 3 dL_law_467 rfl ?_
  refine at_iconst C (3 : Int32) dL_law_468 (by decide) ?_
  refine at_iadd C dL_law_469 ?_
  refine at_sld C hX hbl hbA hi3 dL_law_470 ?_
  refine at_Vi C (As := [.int (xs (y3 + (1 : Int32)).toNatClampNeg), .int (xs (y3 + (2 : Int32)).toNatClampNeg), .int (xs (y3 + (3 : Int32)).toNatClampNeg)]) (st := [.int r1]) (b := 30) (ci := 7) (ct_X7_old u1 (xs (y3 + (1 : Int32)).toNatClampNeg) (xs (y3 + (2 : Int32)).toNatClampNeg) (xs (y3 + (3 : Int32)).toNatClampNeg) j1) mb_X7_old ml_L_60 rfl rfl rfl (by decide) rfl (Nat.le_of_ble_eq_true rfl) dL_law_471 ?_
  rintro r2 u2 h2
  refine at_icmp_eq C 1083 dL_law_474 (by decide) (fun _ => ?_) (fun z => absurd ((ok_old s0_ok h1 h2).2) z)
  exact hK _
set_option maxHeartbeats 4000000 in
set_option maxRecDepth 100000 in
theorem lc_11 {E : EV} {b L : Nat} {xs : Nat → Int32} (hL : L ≤ 5) (C : CX E code RL 1000) (en : e_n E = 4) (hX : va_X b L xs (e_s E) (e_s E).heap) (hbl : b < (e_s E).heap.size) (hbA : ¬ e_A E b) {y3 : Int32} (hi0 : vp_in y3 L) (hi1 : vp_in (y3 + (1 : Int32)) L) (hi2 : vp_in (y3 + (2 : Int32)) L) (hi3 : vp_in (y3 + (3 : Int32)) L) (hi4 : vp_in (y3 + (4 : Int32)) L) (hK : ∀ σ, AT E 1083 [(0, .ref b), (1, .ref (e_q E 0)), (2, .ref (e_q E 30)), (3, .int y3)] [] σ) : AT E 479 [(0, .ref b), (1, .ref (e_q E 0)), (2, .ref (e_q E 30)), (3, .int y3)] [] ac_s0 := by
  refine at_aload_n C 1 dL_law_479 rfl ?_
  refine at_aload_n C 0 dL_law_480 rfl ?_
  refine at_iload_n C 3 dL_law_481 rfl ?_
  refine at_iconst C (1 : Int32) dL_law_482 (by decide) ?_
  refine at_iadd C dL_law_483 ?_
  refine at_sld C hX hbl hbA hi1 dL_law_484 ?_
  refine at_aload_n C 0 dL_law_485 rfl ?_
  refine at_iload_n C 3 dL_law_486 rfl ?_
  refine at_iconst C (2 : Int32) dL_law_487 (by decide) ?_
  refine at_iadd C dL_law_488 ?_
  refine at_sld C hX hbl hbA hi2 dL_law_489 ?_
  refine at_Vi C (As := [.int (xs (y3 + (1 : Int32)).toNatClampNeg), .int (xs (y3 + (2 : Int32)).toNatClampNeg)]) (st := []) (b := 0) (ci := 6) (ct_X6_clock ac_s0 (xs (y3 + (1 : Int32)).toNatClampNeg) (xs (y3 + (2 : Int32)).toNatClampNeg) s0_inv) mb_X6_clock ml_L_61 rfl rfl rfl (by decide) rfl (Nat.le_of_ble_eq_true rfl) dL_law_490 ?_
  rintro r1 u1 h1
  have j1 := pi_X6_clock h1
  refine at_aload_n C 2 dL_law_493 rfl ?_
  refine at_aload_n C 0 dL_law_494 rfl ?_
  refine at_iload_n C 3 dL_law_495 rfl ?_
  refine at_iconst C (1 : Int32) dL_law_496 (by decide) ?_
  refine at_iadd C dL_law_497 ?_
  refine at_sld C hX hbl hbA hi1 dL_law_498 ?_
  refine at_aload_n C 0 dL_law_499 rfl ?_
  refine at_iload_n C 3 dL_law_500 rfl ?_
  refine at_iconst C (2 : Int32) dL_law_501 (by decide) ?_
  refine at_iadd C dL_law_502 ?_
  refine at_sld C hX hbl hbA hi2 dL_law_503 ?_
  refine at_Vi C (As := [.int (xs (y3 + (1 : Int32)).toNatClampNeg), .int (xs (y3 + (2 : Int32)).toNatClampNeg)]) (st := [.int r1]) (b := 30) (ci := 7) (ct_X7_clock u1 (xs (y3 + (1 : Int32)).toNatClampNeg) (xs (y3 + (2 : Int32)).toNatClampNeg) j1) mb_X7_clock ml_L_64 rfl rfl rfl (by decide) rfl (Nat.le_of_ble_eq_true rfl) dL_law_504 ?_
  rintro r2 u2 h2
  refine at_icmp_eq C 1083 dL_law_507 (by decide) (fun _ => ?_) (fun z => absurd ((ok_clock s0_ok h1 h2).2) z)
  exact hK _
set_option maxHeartbeats 4000000 in
set_option maxRecDepth 100000 in
theorem lc_12 {E : EV} {b L : Nat} {xs : Nat → Int32} (hL : L ≤ 5) (C : CX E code RL 1000) (en : e_n E = 4) (hX : va_X b L xs (e_s E) (e_s E).heap) (hbl : b < (e_s E).heap.size) (hbA : ¬ e_A E b) {y3 : Int32} (hi0 : vp_in y3 L) (hi1 : vp_in (y3 + (1 : Int32)) L) (hi2 : vp_in (y3 + (2 : Int32)) L) (hi3 : vp_in (y3 + (3 : Int32)) L) (hi4 : vp_in (y3 + (4 : Int32)) L) (hK : ∀ σ, AT E 1083 [(0, .ref b), (1, .ref (e_q E 0)), (2, .ref (e_q E 30)), (3, .int y3)] [] σ) : AT E 512 [(0, .ref b), (1, .ref (e_q E 0)), (2, .ref (e_q E 30)), (3, .int y3)] [] ac_s0 := by
  refine at_aload_n C 1 dL_law_512 rfl ?_
  refine at_aload_n C 0 dL_law_513 rfl ?_
  refine at_iload_n C 3 dL_law_514 rfl ?_
  refine at_iconst C (1 : Int32) dL_law_515 (by decide) ?_
  refine at_iadd C dL_law_516 ?_
  refine at_sld C hX hbl hbA hi1 dL_law_517 ?_
  refine at_Vi C (As := [.int (xs (y3 + (1 : Int32)).toNatClampNeg)]) (st := []) (b := 0) (ci := 6) (cz_X6_run ac_s0 (xs (y3 + (1 : Int32)).toNatClampNeg) s0_inv ⟨by decide +kernel, by decide +kernel⟩ ⟨by decide +kernel, by decide +kernel⟩) mb_X6_run ml_L_65 rfl rfl rfl (by decide) rfl (Nat.le_of_ble_eq_true rfl) dL_law_518 ?_
  rintro _ _ (⟨c1_0, rfl, rfl, j1⟩ | ⟨c1_0, rfl, rfl, j1⟩)
  · refine at_aload_n C 2 dL_law_521 rfl ?_
    refine at_aload_n C 0 dL_law_522 rfl ?_
    refine at_iload_n C 3 dL_law_523 rfl ?_
    refine at_iconst C (1 : Int32) dL_law_524 (by decide) ?_
    refine at_iadd C dL_law_525 ?_
    refine at_sld C hX hbl hbA hi1 dL_law_526 ?_
    refine at_Vi C (As := [.int (xs (y3 + (1 : Int32)).toNatClampNeg)]) (st := [.int (-2 : Int32)]) (b := 30) (ci := 7) (cz_X7_run ac_s0 (xs (y3 + (1 : Int32)).toNatClampNeg) j1 ⟨by decide +kernel, by decide +kernel⟩) mb_X7_run ml_L_68 rfl rfl rfl (by decide) rfl (Nat.le_of_ble_eq_true rfl) dL_law_527 ?_
    rintro _ _ (⟨c2_0, rfl, rfl, j2⟩ | ⟨c2_0, rfl, rfl, j2⟩)
    · refine at_icmp_eq C 1083 dL_law_530 (by decide) (fun _ => ?_) (fun z => absurd (rfl) z)
      exact hK _
    · exact absurd c2_0 c1_0
  · refine at_aload_n C 2 dL_law_521 rfl ?_
    refine at_aload_n C 0 dL_law_522 rfl ?_
    refine at_iload_n C 3 dL_law_523 rfl ?_
    refine at_iconst C (1 : Int32) dL_law_524 (by decide) ?_
    refine at_iadd C dL_law_525 ?_
    refine at_sld C hX hbl hbA hi1 dL_law_526 ?_
    refine at_Vi C (As := [.int (xs (y3 + (1 : Int32)).toNatClampNeg)]) (st := [.int (0 : Int32)]) (b := 30) (ci := 7) (cz_X7_run ((ac_si (ac_si (ac_si ac_s0 7 (0 : Int32)) 8 (0 : Int32)) 9 (0 : Int32))) (xs (y3 + (1 : Int32)).toNatClampNeg) j1 ⟨by decide +kernel, by decide +kernel⟩) mb_X7_run ml_L_68 rfl rfl rfl (by decide) rfl (Nat.le_of_ble_eq_true rfl) dL_law_527 ?_
    rintro _ _ (⟨c2_0, rfl, rfl, j2⟩ | ⟨c2_0, rfl, rfl, j2⟩)
    · exact absurd c1_0 c2_0
    · refine at_icmp_eq C 1083 dL_law_530 (by decide) (fun _ => ?_) (fun z => absurd (rfl) z)
      exact hK _
set_option maxHeartbeats 4000000 in
set_option maxRecDepth 100000 in
theorem lc_13 {E : EV} {b L : Nat} {xs : Nat → Int32} (hL : L ≤ 5) (C : CX E code RL 1000) (en : e_n E = 4) (hX : va_X b L xs (e_s E) (e_s E).heap) (hbl : b < (e_s E).heap.size) (hbA : ¬ e_A E b) {y3 : Int32} (hi0 : vp_in y3 L) (hi1 : vp_in (y3 + (1 : Int32)) L) (hi2 : vp_in (y3 + (2 : Int32)) L) (hi3 : vp_in (y3 + (3 : Int32)) L) (hi4 : vp_in (y3 + (4 : Int32)) L) (hK : ∀ σ, AT E 1083 [(0, .ref b), (1, .ref (e_q E 0)), (2, .ref (e_q E 30)), (3, .int y3)] [] σ) : AT E 535 [(0, .ref b), (1, .ref (e_q E 0)), (2, .ref (e_q E 30)), (3, .int y3)] [] ac_s0 := by
  refine at_aload_n C 1 dL_law_535 rfl ?_
  refine at_aload_n C 0 dL_law_536 rfl ?_
  refine at_iload_n C 3 dL_law_537 rfl ?_
  refine at_iconst C (1 : Int32) dL_law_538 (by decide) ?_
  refine at_iadd C dL_law_539 ?_
  refine at_sld C hX hbl hbA hi1 dL_law_540 ?_
  refine at_Vi C (As := [.int (xs (y3 + (1 : Int32)).toNatClampNeg)]) (st := []) (b := 0) (ci := 6) (cz_X6_paid ac_s0 (xs (y3 + (1 : Int32)).toNatClampNeg) s0_inv ⟨by decide +kernel, by decide +kernel⟩) mb_X6_paid ml_L_69 rfl rfl rfl (by decide) rfl (Nat.le_of_ble_eq_true rfl) dL_law_541 ?_
  rintro _ _ ⟨rfl, rfl, j1⟩
  · refine at_aload_n C 2 dL_law_544 rfl ?_
    refine at_aload_n C 0 dL_law_545 rfl ?_
    refine at_iload_n C 3 dL_law_546 rfl ?_
    refine at_iconst C (1 : Int32) dL_law_547 (by decide) ?_
    refine at_iadd C dL_law_548 ?_
    refine at_sld C hX hbl hbA hi1 dL_law_549 ?_
    refine at_Vi C (As := [.int (xs (y3 + (1 : Int32)).toNatClampNeg)]) (st := [.int (-2 : Int32)]) (b := 30) (ci := 7) (cz_X7_paid ac_s0 (xs (y3 + (1 : Int32)).toNatClampNeg) j1 ⟨by decide +kernel, by decide +kernel⟩) mb_X7_paid ml_L_72 rfl rfl rfl (by decide) rfl (Nat.le_of_ble_eq_true rfl) dL_law_550 ?_
    rintro _ _ ⟨rfl, rfl, j2⟩
    · refine at_icmp_eq C 1083 dL_law_553 (by decide) (fun _ => ?_) (fun z => absurd (rfl) z)
      exact hK _
set_option maxHeartbeats 4000000 in
set_option maxRecDepth 100000 in
theorem lc_14 {E : EV} {b L : Nat} {xs : Nat → Int32} (hL : L ≤ 5) (C : CX E code RL 1000) (en : e_n E = 4) (hX : va_X b L xs (e_s E) (e_s E).heap) (hbl : b < (e_s E).heap.size) (hbA : ¬ e_A E b) {y3 : Int32} (hi0 : vp_in y3 L) (hi1 : vp_in (y3 + (1 : Int32)) L) (hi2 : vp_in (y3 + (2 : Int32)) L) (hi3 : vp_in (y3 + (3 : Int32)) L) (hi4 : vp_in (y3 + (4 : Int32)) L) (hK : ∀ σ, AT E 1083 [(0, .ref b), (1, .ref (e_q E 0)), (2, .ref (e_q E 30)), (3, .int y3)] [] σ) : AT E 558 [(0, .ref b), (1, .ref (e_q E 0)), (2, .ref (e_q E 30)), (3, .int y3)] [] ac_s0 := by
  refine at_aload_n C 1 dL_law_558 rfl ?_
  refine at_aload_n C 0 dL_law_559 rfl ?_
  refine at_iload_n C 3 dL_law_560 rfl ?_
  refine at_iconst C (1 : Int32) dL_law_561 (by decide) ?_
  refine at_iadd C dL_law_562 ?_
  refine at_sld C hX hbl hbA hi1 dL_law_563 ?_
  refine at_Vi C (As := [.int (xs (y3 + (1 : Int32)).toNatClampNeg)]) (st := []) (b := 0) (ci := 6) (cz_X6_round ac_s0 (xs (y3 + (1 : Int32)).toNatClampNeg) s0_inv ⟨by decide +kernel, by decide +kernel⟩) mb_X6_round ml_L_73 rfl rfl rfl (by decide) rfl (Nat.le_of_ble_eq_true rfl) dL_law_564 ?_
  rintro _ _ ⟨rfl, rfl, j1⟩
  · refine at_aload_n C 2 dL_law_567 rfl ?_
    refine at_aload_n C 0 dL_law_568 rfl ?_
    refine at_iload_n C 3 dL_law_569 rfl ?_
    refine at_iconst C (1 : Int32) dL_law_570 (by decide) ?_
    refine at_iadd C dL_law_571 ?_
    refine at_sld C hX hbl hbA hi1 dL_law_572 ?_
    refine at_Vi C (As := [.int (xs (y3 + (1 : Int32)).toNatClampNeg)]) (st := [.int (-2 : Int32)]) (b := 30) (ci := 7) (cz_X7_round ac_s0 (xs (y3 + (1 : Int32)).toNatClampNeg) j1 ⟨by decide +kernel, by decide +kernel⟩) mb_X7_round ml_L_76 rfl rfl rfl (by decide) rfl (Nat.le_of_ble_eq_true rfl) dL_law_573 ?_
    rintro _ _ ⟨rfl, rfl, j2⟩
    · refine at_icmp_eq C 1083 dL_law_576 (by decide) (fun _ => ?_) (fun z => absurd (rfl) z)
      exact hK _
set_option maxHeartbeats 4000000 in
set_option maxRecDepth 100000 in
theorem lc_15 {E : EV} {b L : Nat} {xs : Nat → Int32} (hL : L ≤ 5) (C : CX E code RL 1000) (en : e_n E = 4) (hX : va_X b L xs (e_s E) (e_s E).heap) (hbl : b < (e_s E).heap.size) (hbA : ¬ e_A E b) {y3 : Int32} (hi0 : vp_in y3 L) (hi1 : vp_in (y3 + (1 : Int32)) L) (hi2 : vp_in (y3 + (2 : Int32)) L) (hi3 : vp_in (y3 + (3 : Int32)) L) (hi4 : vp_in (y3 + (4 : Int32)) L) (hK : ∀ σ, AT E 1083 [(0, .ref b), (1, .ref (e_q E 0)), (2, .ref (e_q E 30)), (3, .int y3)] [] σ) : AT E 581 [(0, .ref b), (1, .ref (e_q E 0)), (2, .ref (e_q E 30)), (3, .int y3)] [] ac_s0 := by
  refine at_aload_n C 1 dL_law_581 rfl ?_
  refine at_aload_n C 0 dL_law_582 rfl ?_
  refine at_iload_n C 3 dL_law_583 rfl ?_
  refine at_iconst C (1 : Int32) dL_law_584 (by decide) ?_
  refine at_iadd C dL_law_585 ?_
  refine at_sld C hX hbl hbA hi1 dL_law_586 ?_
  refine at_aload_n C 0 dL_law_587 rfl ?_
  refine at_iload_n C 3 dL_law_588 rfl ?_
  refine at_iconst C (2 : Int32) dL_law_589 (by decide) ?_
  refine at_iadd C dL_law_590 ?_
  refine at_sld C hX hbl hbA hi2 dL_law_591 ?_
  refine at_Vi C (As := [.int (xs (y3 + (1 : Int32)).toNatClampNeg), .int (xs (y3 + (2 : Int32)).toNatClampNeg)]) (st := []) (b := 0) (ci := 6) (cz_X6_gain ac_s0 (xs (y3 + (1 : Int32)).toNatClampNeg) (xs (y3 + (2 : Int32)).toNatClampNeg) s0_inv ⟨by decide +kernel, by decide +kernel⟩) mb_X6_gain ml_L_77 rfl rfl rfl (by decide) rfl (Nat.le_of_ble_eq_true rfl) dL_law_592 ?_
  rintro _ _ ⟨rfl, rfl, j1⟩
  · refine at_aload_n C 2 dL_law_595 rfl ?_
    refine at_aload_n C 0 dL_law_596 rfl ?_
    refine at_iload_n C 3 dL_law_597 rfl ?_
    refine at_iconst C (1 : Int32) dL_law_598 (by decide) ?_
    refine at_iadd C dL_law_599 ?_
    refine at_sld C hX hbl hbA hi1 dL_law_600 ?_
    refine at_aload_n C 0 dL_law_601 rfl ?_
    refine at_iload_n C 3 dL_law_602 rfl ?_
    refine at_iconst C (2 : Int32) dL_law_603 (by decide) ?_
    refine at_iadd C dL_law_604 ?_
    refine at_sld C hX hbl hbA hi2 dL_law_605 ?_
    refine at_Vi C (As := [.int (xs (y3 + (1 : Int32)).toNatClampNeg), .int (xs (y3 + (2 : Int32)).toNatClampNeg)]) (st := [.int (-1000000 : Int32)]) (b := 30) (ci := 7) (cz_X7_gain ac_s0 (xs (y3 + (1 : Int32)).toNatClampNeg) (xs (y3 + (2 : Int32)).toNatClampNeg) j1 ⟨by decide +kernel, by decide +kernel⟩) mb_X7_gain ml_L_80 rfl rfl rfl (by decide) rfl (Nat.le_of_ble_eq_true rfl) dL_law_606 ?_
    rintro _ _ ⟨rfl, rfl, j2⟩
    · refine at_icmp_eq C 1083 dL_law_609 (by decide) (fun _ => ?_) (fun z => absurd (rfl) z)
      exact hK _
set_option maxHeartbeats 4000000 in
set_option maxRecDepth 100000 in
theorem lc_16 {E : EV} {b L : Nat} {xs : Nat → Int32} (hL : L ≤ 5) (C : CX E code RL 1000) (en : e_n E = 4) (hX : va_X b L xs (e_s E) (e_s E).heap) (hbl : b < (e_s E).heap.size) (hbA : ¬ e_A E b) {y3 : Int32} (hi0 : vp_in y3 L) (hi1 : vp_in (y3 + (1 : Int32)) L) (hi2 : vp_in (y3 + (2 : Int32)) L) (hi3 : vp_in (y3 + (3 : Int32)) L) (hi4 : vp_in (y3 + (4 : Int32)) L) (hK : ∀ σ, AT E 1083 [(0, .ref b), (1, .ref (e_q E 0)), (2, .ref (e_q E 30)), (3, .int y3)] [] σ) : AT E 614 [(0, .ref b), (1, .ref (e_q E 0)), (2, .ref (e_q E 30)), (3, .int y3)] [] ac_s0 := by
  refine at_aload_n C 1 dL_law_614 rfl ?_
  refine at_aload_n C 0 dL_law_615 rfl ?_
  refine at_iload_n C 3 dL_law_616 rfl ?_
  refine at_iconst C (1 : Int32) dL_law_617 (by decide) ?_
  refine at_iadd C dL_law_618 ?_
  refine at_sld C hX hbl hbA hi1 dL_law_619 ?_
  refine at_aload_n C 0 dL_law_620 rfl ?_
  refine at_iload_n C 3 dL_law_621 rfl ?_
  refine at_iconst C (2 : Int32) dL_law_622 (by decide) ?_
  refine at_iadd C dL_law_623 ?_
  refine at_sld C hX hbl hbA hi2 dL_law_624 ?_
  refine at_aload_n C 0 dL_law_625 rfl ?_
  refine at_iload_n C 3 dL_law_626 rfl ?_
  refine at_iconst C (3 : Int32) dL_law_627 (by decide) ?_
  refine at_iadd C dL_law_628 ?_
  refine at_sld C hX hbl hbA hi3 dL_law_629 ?_
  refine at_aload_n C 0 dL_law_630 rfl ?_
  refine at_iload_n C 3 dL_law_631 rfl ?_
  refine at_iconst C (4 : Int32) dL_law_632 (by decide) ?_
  refine at_iadd C dL_law_633 ?_
  refine at_sld C hX hbl hbA hi4 dL_law_634 ?_
  refine at_Vi C (As := [.int (xs (y3 + (1 : Int32)).toNatClampNeg), .int (xs (y3 + (2 : Int32)).toNatClampNeg), .int (xs (y3 + (3 : Int32)).toNatClampNeg), .int (xs (y3 + (4 : Int32)).toNatClampNeg)]) (st := []) (b := 0) (ci := 6) (cz_X6_most ac_s0 (xs (y3 + (1 : Int32)).toNatClampNeg) (xs (y3 + (2 : Int32)).toNatClampNeg) (xs (y3 + (3 : Int32)).toNatClampNeg) (xs (y3 + (4 : Int32)).toNatClampNeg) s0_inv ⟨by decide +kernel, by decide +kernel⟩) mb_X6_most ml_L_81 rfl rfl rfl (by decide) rfl (Nat.le_of_ble_eq_true rfl) dL_law_635 ?_
  rintro _ _ ⟨rfl, rfl, j1⟩
  · refine at_aload_n C 2 dL_law_638 rfl ?_
    refine at_aload_n C 0 dL_law_639 rfl ?_
    refine at_iload_n C 3 dL_law_640 rfl ?_
    refine at_iconst C (1 : Int32) dL_law_641 (by decide) ?_
    refine at_iadd C dL_law_642 ?_
    refine at_sld C hX hbl hbA hi1 dL_law_643 ?_
    refine at_aload_n C 0 dL_law_644 rfl ?_
    refine at_iload_n C 3 dL_law_645 rfl ?_
    refine at_iconst C (2 : Int32) dL_law_646 (by decide) ?_
    refine at_iadd C dL_law_647 ?_
    refine at_sld C hX hbl hbA hi2 dL_law_648 ?_
    refine at_aload_n C 0 dL_law_649 rfl ?_
    refine at_iload_n C 3 dL_law_650 rfl ?_
    refine at_iconst C (3 : Int32) dL_law_651 (by decide) ?_
    refine at_iadd C dL_law_652 ?_
    refine at_sld C hX hbl hbA hi3 dL_law_653 ?_
    refine at_aload_n C 0 dL_law_654 rfl ?_
    refine at_iload_n C 3 dL_law_655 rfl ?_
    refine at_iconst C (4 : Int32) dL_law_656 (by decide) ?_
    refine at_iadd C dL_law_657 ?_
    refine at_sld C hX hbl hbA hi4 dL_law_658 ?_
    refine at_Vi C (As := [.int (xs (y3 + (1 : Int32)).toNatClampNeg), .int (xs (y3 + (2 : Int32)).toNatClampNeg), .int (xs (y3 + (3 : Int32)).toNatClampNeg), .int (xs (y3 + (4 : Int32)).toNatClampNeg)]) (st := [.int (-1000000 : Int32)]) (b := 30) (ci := 7) (cz_X7_most ac_s0 (xs (y3 + (1 : Int32)).toNatClampNeg) (xs (y3 + (2 : Int32)).toNatClampNeg) (xs (y3 + (3 : Int32)).toNatClampNeg) (xs (y3 + (4 : Int32)).toNatClampNeg) j1 ⟨by decide +kernel, by decide +kernel⟩) mb_X7_most ml_L_85 rfl rfl rfl (by decide) rfl (Nat.le_of_ble_eq_true rfl) dL_law_659 ?_
    rintro _ _ ⟨rfl, rfl, j2⟩
    · refine at_icmp_eq C 1083 dL_law_662 (by decide) (fun _ => ?_) (fun z => absurd (rfl) z)
      exact hK _
set_option maxHeartbeats 4000000 in
set_option maxRecDepth 100000 in
theorem lc_17 {E : EV} {b L : Nat} {xs : Nat → Int32} (hL : L ≤ 5) (C : CX E code RL 1000) (en : e_n E = 4) (hX : va_X b L xs (e_s E) (e_s E).heap) (hbl : b < (e_s E).heap.size) (hbA : ¬ e_A E b) {y3 : Int32} (hi0 : vp_in y3 L) (hi1 : vp_in (y3 + (1 : Int32)) L) (hi2 : vp_in (y3 + (2 : Int32)) L) (hi3 : vp_in (y3 + (3 : Int32)) L) (hi4 : vp_in (y3 + (4 : Int32)) L) (hK : ∀ σ, AT E 1083 [(0, .ref b), (1, .ref (e_q E 0)), (2, .ref (e_q E 30)), (3, .int y3)] [] σ) : AT E 667 [(0, .ref b), (1, .ref (e_q E 0)), (2, .ref (e_q E 30)), (3, .int y3)] [] ac_s0 := by
  refine at_aload_n C 1 dL_law_667 rfl ?_
  refine at_Vi C (As := []) (st := []) (b := 0) (ci := 6) (ct_X6_house ac_s0  s0_inv) mb_X6_house ml_L_86 rfl rfl rfl (by decide) rfl (Nat.le_of_ble_eq_true rfl) dL_law_668 ?_
  rintro r1 u1 h1
  have j1 := pi_X6_house h1
  refine at_aload_n C 2 dL_law_671 rfl ?_
  refine at_Vi C (As := []) (st := [.int r1]) (b := 30) (ci := 7) (ct_X7_house u1  j1) mb_X7_house ml_L_89 rfl rfl rfl (by decide) rfl (Nat.le_of_ble_eq_true rfl) dL_law_672 ?_
  rintro r2 u2 h2
  refine at_icmp_eq C 1083 dL_law_675 (by decide) (fun _ => ?_) (fun z => absurd ((ok_house s0_ok h1 h2).2) z)
  exact hK _
set_option maxHeartbeats 4000000 in
set_option maxRecDepth 100000 in
theorem lc_18 {E : EV} {b L : Nat} {xs : Nat → Int32} (hL : L ≤ 5) (C : CX E code RL 1000) (en : e_n E = 4) (hX : va_X b L xs (e_s E) (e_s E).heap) (hbl : b < (e_s E).heap.size) (hbA : ¬ e_A E b) {y3 : Int32} (hi0 : vp_in y3 L) (hi1 : vp_in (y3 + (1 : Int32)) L) (hi2 : vp_in (y3 + (2 : Int32)) L) (hi3 : vp_in (y3 + (3 : Int32)) L) (hi4 : vp_in (y3 + (4 : Int32)) L) (hK : ∀ σ, AT E 1083 [(0, .ref b), (1, .ref (e_q E 0)), (2, .ref (e_q E 30)), (3, .int y3)] [] σ) : AT E 680 [(0, .ref b), (1, .ref (e_q E 0)), (2, .ref (e_q E 30)), (3, .int y3)] [] ac_s0 := by
  refine at_aload_n C 1 dL_law_680 rfl ?_
  refine at_aload_n C 0 dL_law_681 rfl ?_
  refine at_iload_n C 3 dL_law_682 rfl ?_
  refine at_iconst C (1 : Int32) dL_law_683 (by decide) ?_
  refine at_iadd C dL_law_684 ?_
  refine at_sld C hX hbl hbA hi1 dL_law_685 ?_
  refine at_aload_n C 0 dL_law_686 rfl ?_
  refine at_iload_n C 3 dL_law_687 rfl ?_
  refine at_iconst C (2 : Int32) dL_law_688 (by decide) ?_
  refine at_iadd C dL_law_689 ?_
  refine at_sld C hX hbl hbA hi2 dL_law_690 ?_
  refine at_aload_n C 0 dL_law_691 rfl ?_
  refine at_iload_n C 3 dL_law_692 rfl ?_
  refine at_iconst C (3 : Int32) dL_law_693 (by decide) ?_
  refine at_iadd C dL_law_694 ?_
  refine at_sld C hX hbl hbA hi3 dL_law_695 ?_
  refine at_Vi C (As := [.int (xs (y3 + (1 : Int32)).toNatClampNeg), .int (xs (y3 + (2 : Int32)).toNatClampNeg), .int (xs (y3 + (3 : Int32)).toNatClampNeg)]) (st := []) (b := 0) (ci := 6) (ct_X6_ask ac_s0 (xs (y3 + (1 : Int32)).toNatClampNeg) (xs (y3 + (2 : Int32)).toNatClampNeg) (xs (y3 + (3 : Int32)).toNatClampNeg) s0_inv) mb_X6_ask ml_L_90 rfl rfl rfl (by decide) rfl (Nat.le_of_ble_eq_true rfl) dL_law_696 ?_
  rintro r1 u1 h1
  have j1 := pi_X6_ask h1
  refine at_aload_n C 2 dL_law_699 rfl ?_
  refine at_aload_n C 0 dL_law_700 rfl ?_
  refine at_iload_n C 3 dL_law_701 rfl ?_
  refine at_iconst C (1 : Int32) dL_law_702 (by decide) ?_
  refine at_iadd C dL_law_703 ?_
  refine at_sld C hX hbl hbA hi1 dL_law_704 ?_
  refine at_aload_n C 0 dL_law_705 rfl ?_
  refine at_iload_n C 3 dL_law_706 rfl ?_
  refine at_iconst C (2 : Int32) dL_law_707 (by decide) ?_
  refine at_iadd C dL_law_708 ?_
  refine at_sld C hX hbl hbA hi2 dL_law_709 ?_
  refine at_aload_n C 0 dL_law_710 rfl ?_
  refine at_iload_n C 3 dL_law_711 rfl ?_
  refine at_iconst C (3 : Int32) dL_law_712 (by decide) ?_
  refine at_iadd C dL_law_713 ?_
  refine at_sld C hX hbl hbA hi3 dL_law_714 ?_
  refine at_Vi C (As := [.int (xs (y3 + (1 : Int32)).toNatClampNeg), .int (xs (y3 + (2 : Int32)).toNatClampNeg), .int (xs (y3 + (3 : Int32)).toNatClampNeg)]) (st := [.int r1]) (b := 30) (ci := 7) (ct_X7_ask u1 (xs (y3 + (1 : Int32)).toNatClampNeg) (xs (y3 + (2 : Int32)).toNatClampNeg) (xs (y3 + (3 : Int32)).toNatClampNeg) j1) mb_X7_ask ml_L_93 rfl rfl rfl (by decide) rfl (Nat.le_of_ble_eq_true rfl) dL_law_715 ?_
  rintro r2 u2 h2
  refine at_icmp_eq C 1083 dL_law_718 (by decide) (fun _ => ?_) (fun z => absurd ((ok_ask s0_ok h1 h2).2) z)
  exact hK _
set_option maxHeartbeats 4000000 in
set_option maxRecDepth 100000 in
theorem lc_19 {E : EV} {b L : Nat} {xs : Nat → Int32} (hL : L ≤ 5) (C : CX E code RL 1000) (en : e_n E = 4) (hX : va_X b L xs (e_s E) (e_s E).heap) (hbl : b < (e_s E).heap.size) (hbA : ¬ e_A E b) {y3 : Int32} (hi0 : vp_in y3 L) (hi1 : vp_in (y3 + (1 : Int32)) L) (hi2 : vp_in (y3 + (2 : Int32)) L) (hi3 : vp_in (y3 + (3 : Int32)) L) (hi4 : vp_in (y3 + (4 : Int32)) L) (hK : ∀ σ, AT E 1083 [(0, .ref b), (1, .ref (e_q E 0)), (2, .ref (e_q E 30)), (3, .int y3)] [] σ) : AT E 723 [(0, .ref b), (1, .ref (e_q E 0)), (2, .ref (e_q E 30)), (3, .int y3)] [] ac_s0 := by
  refine at_aload_n C 1 dL_law_723 rfl ?_
  refine at_aload_n C 0 dL_law_724 rfl ?_
  refine at_iload_n C 3 dL_law_725 rfl ?_
  refine at_iconst C (1 : Int32) dL_law_726 (by decide) ?_
  refine at_iadd C dL_law_727 ?_
  refine at_sld C hX hbl hbA hi1 dL_law_728 ?_
  refine at_aload_n C 0 dL_law_729 rfl ?_
  refine at_iload_n C 3 dL_law_730 rfl ?_
  refine at_iconst C (2 : Int32) dL_law_731 (by decide) ?_
  refine at_iadd C dL_law_732 ?_
  refine at_sld C hX hbl hbA hi2 dL_law_733 ?_
  refine at_Vi C (As := [.int (xs (y3 + (1 : Int32)).toNatClampNeg), .int (xs (y3 + (2 : Int32)).toNatClampNeg)]) (st := []) (b := 0) (ci := 6) (ct_X6_best ac_s0 (xs (y3 + (1 : Int32)).toNatClampNeg) (xs (y3 + (2 : Int32)).toNatClampNeg) s0_inv) mb_X6_best ml_L_94 rfl rfl rfl (by decide) rfl (Nat.le_of_ble_eq_true rfl) dL_law_734 ?_
  rintro r1 u1 ⟨h1, -, m1⟩
  refine at_aload_n C 2 dL_law_737 rfl ?_
  refine at_aload_n C 0 dL_law_738 rfl ?_
  refine at_iload_n C 3 dL_law_739 rfl ?_
  refine at_iconst C (1 : Int32) dL_law_740 (by decide) ?_
  refine at_iadd C dL_law_741 ?_
  refine at_sld C hX hbl hbA hi1 dL_law_742 ?_
  refine at_aload_n C 0 dL_law_743 rfl ?_
  refine at_iload_n C 3 dL_law_744 rfl ?_
  refine at_iconst C (2 : Int32) dL_law_745 (by decide) ?_
  refine at_iadd C dL_law_746 ?_
  refine at_sld C hX hbl hbA hi2 dL_law_747 ?_
  refine at_Vi C (As := [.int (xs (y3 + (1 : Int32)).toNatClampNeg), .int (xs (y3 + (2 : Int32)).toNatClampNeg)]) (st := [.int r1]) (b := 30) (ci := 7) (ct_X7_best u1 (xs (y3 + (1 : Int32)).toNatClampNeg) (xs (y3 + (2 : Int32)).toNatClampNeg) h1.1) mb_X7_best ml_L_97 rfl rfl rfl (by decide) rfl (Nat.le_of_ble_eq_true rfl) dL_law_748 ?_
  rintro r2 u2 ⟨h2, -, m2⟩
  refine at_icmp_eq C 1083 dL_law_751 (by decide) (fun _ => ?_) (fun z => absurd (eq_best s0_ok h1 (m1 (Ok.tb s0_ok)).2 m2) z)
  exact hK _
set_option maxHeartbeats 4000000 in
set_option maxRecDepth 100000 in
theorem lc_20 {E : EV} {b L : Nat} {xs : Nat → Int32} (hL : L ≤ 5) (C : CX E code RL 1000) (en : e_n E = 4) (hX : va_X b L xs (e_s E) (e_s E).heap) (hbl : b < (e_s E).heap.size) (hbA : ¬ e_A E b) {y3 : Int32} (hi0 : vp_in y3 L) (hi1 : vp_in (y3 + (1 : Int32)) L) (hi2 : vp_in (y3 + (2 : Int32)) L) (hi3 : vp_in (y3 + (3 : Int32)) L) (hi4 : vp_in (y3 + (4 : Int32)) L) (hK : ∀ σ, AT E 1083 [(0, .ref b), (1, .ref (e_q E 0)), (2, .ref (e_q E 30)), (3, .int y3)] [] σ) : AT E 756 [(0, .ref b), (1, .ref (e_q E 0)), (2, .ref (e_q E 30)), (3, .int y3)] [] ac_s0 := by
  refine at_aload_n C 1 dL_law_756 rfl ?_
  refine at_aload_n C 0 dL_law_757 rfl ?_
  refine at_iload_n C 3 dL_law_758 rfl ?_
  refine at_iconst C (1 : Int32) dL_law_759 (by decide) ?_
  refine at_iadd C dL_law_760 ?_
  refine at_sld C hX hbl hbA hi1 dL_law_761 ?_
  refine at_Vi C (As := [.int (xs (y3 + (1 : Int32)).toNatClampNeg)]) (st := []) (b := 0) (ci := 6) (ct_X6_takes ac_s0 (xs (y3 + (1 : Int32)).toNatClampNeg) s0_inv) mb_X6_takes ml_L_98 rfl rfl rfl (by decide) rfl (Nat.le_of_ble_eq_true rfl) dL_law_762 ?_
  rintro r1 u1 ⟨h1, -, m1⟩
  refine at_aload_n C 2 dL_law_765 rfl ?_
  refine at_aload_n C 0 dL_law_766 rfl ?_
  refine at_iload_n C 3 dL_law_767 rfl ?_
  refine at_iconst C (1 : Int32) dL_law_768 (by decide) ?_
  refine at_iadd C dL_law_769 ?_
  refine at_sld C hX hbl hbA hi1 dL_law_770 ?_
  refine at_Vi C (As := [.int (xs (y3 + (1 : Int32)).toNatClampNeg)]) (st := [.int r1]) (b := 30) (ci := 7) (ct_X7_takes u1 (xs (y3 + (1 : Int32)).toNatClampNeg) h1.1) mb_X7_takes ml_L_101 rfl rfl rfl (by decide) rfl (Nat.le_of_ble_eq_true rfl) dL_law_771 ?_
  rintro r2 u2 ⟨h2, -, m2⟩
  refine at_icmp_eq C 1083 dL_law_774 (by decide) (fun _ => ?_) (fun z => absurd (eq_takes s0_ok h1 (m1 (Ok.tb s0_ok)).2 m2) z)
  exact hK _
set_option maxHeartbeats 4000000 in
set_option maxRecDepth 100000 in
theorem lc_21 {E : EV} {b L : Nat} {xs : Nat → Int32} (hL : L ≤ 5) (C : CX E code RL 1000) (en : e_n E = 4) (hX : va_X b L xs (e_s E) (e_s E).heap) (hbl : b < (e_s E).heap.size) (hbA : ¬ e_A E b) {y3 : Int32} (hi0 : vp_in y3 L) (hi1 : vp_in (y3 + (1 : Int32)) L) (hi2 : vp_in (y3 + (2 : Int32)) L) (hi3 : vp_in (y3 + (3 : Int32)) L) (hi4 : vp_in (y3 + (4 : Int32)) L) (hK : ∀ σ, AT E 1083 [(0, .ref b), (1, .ref (e_q E 0)), (2, .ref (e_q E 30)), (3, .int y3)] [] σ) : AT E 779 [(0, .ref b), (1, .ref (e_q E 0)), (2, .ref (e_q E 30)), (3, .int y3)] [] ac_s0 := by
  refine at_aload_n C 1 dL_law_779 rfl ?_
  refine at_aload_n C 0 dL_law_780 rfl ?_
  refine at_iload_n C 3 dL_law_781 rfl ?_
  refine at_iconst C (1 : Int32) dL_law_782 (by decide) ?_
  refine at_iadd C dL_law_783 ?_
  refine at_sld C hX hbl hbA hi1 dL_law_784 ?_
  refine at_aload_n C 0 dL_law_785 rfl ?_
  refine at_iload_n C 3 dL_law_786 rfl ?_
  refine at_iconst C (2 : Int32) dL_law_787 (by decide) ?_
  refine at_iadd C dL_law_788 ?_
  refine at_sld C hX hbl hbA hi2 dL_law_789 ?_
  refine at_Vi C (As := [.int (xs (y3 + (1 : Int32)).toNatClampNeg), .int (xs (y3 + (2 : Int32)).toNatClampNeg)]) (st := []) (b := 0) (ci := 6) (ct_X6_price ac_s0 (xs (y3 + (1 : Int32)).toNatClampNeg) (xs (y3 + (2 : Int32)).toNatClampNeg) s0_inv) mb_X6_price ml_L_102 rfl rfl rfl (by decide) rfl (Nat.le_of_ble_eq_true rfl) dL_law_790 ?_
  rintro r1 u1 h1
  have j1 := pi_X6_price h1
  refine at_aload_n C 2 dL_law_793 rfl ?_
  refine at_aload_n C 0 dL_law_794 rfl ?_
  refine at_iload_n C 3 dL_law_795 rfl ?_
  refine at_iconst C (1 : Int32) dL_law_796 (by decide) ?_
  refine at_iadd C dL_law_797 ?_
  refine at_sld C hX hbl hbA hi1 dL_law_798 ?_
  refine at_aload_n C 0 dL_law_799 rfl ?_
  refine at_iload_n C 3 dL_law_800 rfl ?_
  refine at_iconst C (2 : Int32) dL_law_801 (by decide) ?_
  refine at_iadd C dL_law_802 ?_
  refine at_sld C hX hbl hbA hi2 dL_law_803 ?_
  refine at_Vi C (As := [.int (xs (y3 + (1 : Int32)).toNatClampNeg), .int (xs (y3 + (2 : Int32)).toNatClampNeg)]) (st := [.int r1]) (b := 30) (ci := 7) (ct_X7_price u1 (xs (y3 + (1 : Int32)).toNatClampNeg) (xs (y3 + (2 : Int32)).toNatClampNeg) j1) mb_X7_price ml_L_105 rfl rfl rfl (by decide) rfl (Nat.le_of_ble_eq_true rfl) dL_law_804 ?_
  rintro r2 u2 h2
  refine at_icmp_eq C 1083 dL_law_807 (by decide) (fun _ => ?_) (fun z => absurd ((ok_price s0_ok h1 h2).2) z)
  exact hK _
set_option maxHeartbeats 4000000 in
set_option maxRecDepth 100000 in
theorem lc_22 {E : EV} {b L : Nat} {xs : Nat → Int32} (hL : L ≤ 5) (C : CX E code RL 1000) (en : e_n E = 4) (hX : va_X b L xs (e_s E) (e_s E).heap) (hbl : b < (e_s E).heap.size) (hbA : ¬ e_A E b) {y3 : Int32} (hi0 : vp_in y3 L) (hi1 : vp_in (y3 + (1 : Int32)) L) (hi2 : vp_in (y3 + (2 : Int32)) L) (hi3 : vp_in (y3 + (3 : Int32)) L) (hi4 : vp_in (y3 + (4 : Int32)) L) (hK : ∀ σ, AT E 1083 [(0, .ref b), (1, .ref (e_q E 0)), (2, .ref (e_q E 30)), (3, .int y3)] [] σ) : AT E 812 [(0, .ref b), (1, .ref (e_q E 0)), (2, .ref (e_q E 30)), (3, .int y3)] [] ac_s0 := by
  refine at_aload_n C 1 dL_law_812 rfl ?_
  refine at_aload_n C 0 dL_law_813 rfl ?_
  refine at_iload_n C 3 dL_law_814 rfl ?_
  refine at_iconst C (1 : Int32) dL_law_815 (by decide) ?_
  refine at_iadd C dL_law_816 ?_
  refine at_sld C hX hbl hbA hi1 dL_law_817 ?_
  refine at_Vi C (As := [.int (xs (y3 + (1 : Int32)).toNatClampNeg)]) (st := []) (b := 0) (ci := 6) (ct_X6_blocks ac_s0 (xs (y3 + (1 : Int32)).toNatClampNeg) s0_inv) mb_X6_blocks ml_L_106 rfl rfl rfl (by decide) rfl (Nat.le_of_ble_eq_true rfl) dL_law_818 ?_
  rintro r1 u1 ⟨h1, -, m1⟩
  refine at_aload_n C 2 dL_law_821 rfl ?_
  refine at_aload_n C 0 dL_law_822 rfl ?_
  refine at_iload_n C 3 dL_law_823 rfl ?_
  refine at_iconst C (1 : Int32) dL_law_824 (by decide) ?_
  refine at_iadd C dL_law_825 ?_
  refine at_sld C hX hbl hbA hi1 dL_law_826 ?_
  refine at_Vi C (As := [.int (xs (y3 + (1 : Int32)).toNatClampNeg)]) (st := [.int r1]) (b := 30) (ci := 7) (ct_X7_blocks u1 (xs (y3 + (1 : Int32)).toNatClampNeg) h1.1) mb_X7_blocks ml_L_109 rfl rfl rfl (by decide) rfl (Nat.le_of_ble_eq_true rfl) dL_law_827 ?_
  rintro r2 u2 ⟨h2, -, m2⟩
  refine at_icmp_eq C 1083 dL_law_830 (by decide) (fun _ => ?_) (fun z => absurd (eq_blocks s0_ok h1 (m1 (Ok.tb s0_ok)).2 m2) z)
  exact hK _
set_option maxHeartbeats 4000000 in
set_option maxRecDepth 100000 in
theorem lc_23 {E : EV} {b L : Nat} {xs : Nat → Int32} (hL : L ≤ 5) (C : CX E code RL 1000) (en : e_n E = 4) (hX : va_X b L xs (e_s E) (e_s E).heap) (hbl : b < (e_s E).heap.size) (hbA : ¬ e_A E b) {y3 : Int32} (hi0 : vp_in y3 L) (hi1 : vp_in (y3 + (1 : Int32)) L) (hi2 : vp_in (y3 + (2 : Int32)) L) (hi3 : vp_in (y3 + (3 : Int32)) L) (hi4 : vp_in (y3 + (4 : Int32)) L) (hK : ∀ σ, AT E 1083 [(0, .ref b), (1, .ref (e_q E 0)), (2, .ref (e_q E 30)), (3, .int y3)] [] σ) : AT E 835 [(0, .ref b), (1, .ref (e_q E 0)), (2, .ref (e_q E 30)), (3, .int y3)] [] ac_s0 := by
  refine at_aload_n C 1 dL_law_835 rfl ?_
  refine at_Vi C (As := []) (st := []) (b := 0) (ci := 6) (ct_X6_alone ac_s0  s0_inv) mb_X6_alone ml_L_110 rfl rfl rfl (by decide) rfl (Nat.le_of_ble_eq_true rfl) dL_law_836 ?_
  rintro r1 u1 ⟨h1, -, m1⟩
  refine at_aload_n C 2 dL_law_839 rfl ?_
  refine at_Vi C (As := []) (st := [.int r1]) (b := 30) (ci := 7) (ct_X7_alone u1  h1.1) mb_X7_alone ml_L_113 rfl rfl rfl (by decide) rfl (Nat.le_of_ble_eq_true rfl) dL_law_840 ?_
  rintro r2 u2 ⟨h2, -, m2⟩
  refine at_icmp_eq C 1083 dL_law_843 (by decide) (fun _ => ?_) (fun z => absurd (eq_alone s0_ok h1 (m1 (Ok.tb s0_ok)).2 m2) z)
  exact hK _
set_option maxHeartbeats 4000000 in
set_option maxRecDepth 100000 in
theorem lc_24 {E : EV} {b L : Nat} {xs : Nat → Int32} (hL : L ≤ 5) (C : CX E code RL 1000) (en : e_n E = 4) (hX : va_X b L xs (e_s E) (e_s E).heap) (hbl : b < (e_s E).heap.size) (hbA : ¬ e_A E b) {y3 : Int32} (hi0 : vp_in y3 L) (hi1 : vp_in (y3 + (1 : Int32)) L) (hi2 : vp_in (y3 + (2 : Int32)) L) (hi3 : vp_in (y3 + (3 : Int32)) L) (hi4 : vp_in (y3 + (4 : Int32)) L) (hK : ∀ σ, AT E 1083 [(0, .ref b), (1, .ref (e_q E 0)), (2, .ref (e_q E 30)), (3, .int y3)] [] σ) : AT E 848 [(0, .ref b), (1, .ref (e_q E 0)), (2, .ref (e_q E 30)), (3, .int y3)] [] ac_s0 := by
  refine at_aload_n C 1 dL_law_848 rfl ?_
  refine at_aload_n C 0 dL_law_849 rfl ?_
  refine at_iload_n C 3 dL_law_850 rfl ?_
  refine at_iconst C (1 : Int32) dL_law_851 (by decide) ?_
  refine at_iadd C dL_law_852 ?_
  refine at_sld C hX hbl hbA hi1 dL_law_853 ?_
  refine at_aload_n C 0 dL_law_854 rfl ?_
  refine at_iload_n C 3 dL_law_855 rfl ?_
  refine at_iconst C (2 : Int32) dL_law_856 (by decide) ?_
  refine at_iadd C dL_law_857 ?_
  refine at_sld C hX hbl hbA hi2 dL_law_858 ?_
  refine at_aload_n C 0 dL_law_859 rfl ?_
  refine at_iload_n C 3 dL_law_860 rfl ?_
  refine at_iconst C (3 : Int32) dL_law_861 (by decide) ?_
  refine at_iadd C dL_law_862 ?_
  refine at_sld C hX hbl hbA hi3 dL_law_863 ?_
  refine at_Vi C (As := [.int (xs (y3 + (1 : Int32)).toNatClampNeg), .int (xs (y3 + (2 : Int32)).toNatClampNeg), .int (xs (y3 + (3 : Int32)).toNatClampNeg)]) (st := []) (b := 0) (ci := 6) (ct_X6_tell ac_s0 (xs (y3 + (1 : Int32)).toNatClampNeg) (xs (y3 + (2 : Int32)).toNatClampNeg) (xs (y3 + (3 : Int32)).toNatClampNeg) s0_inv) mb_X6_tell ml_L_114 rfl rfl rfl (by decide) rfl (Nat.le_of_ble_eq_true rfl) dL_law_864 ?_
  rintro r1 u1 h1
  have j1 := pi_X6_tell h1
  refine at_aload_n C 2 dL_law_867 rfl ?_
  refine at_aload_n C 0 dL_law_868 rfl ?_
  refine at_iload_n C 3 dL_law_869 rfl ?_
  refine at_iconst C (1 : Int32) dL_law_870 (by decide) ?_
  refine at_iadd C dL_law_871 ?_
  refine at_sld C hX hbl hbA hi1 dL_law_872 ?_
  refine at_aload_n C 0 dL_law_873 rfl ?_
  refine at_iload_n C 3 dL_law_874 rfl ?_
  refine at_iconst C (2 : Int32) dL_law_875 (by decide) ?_
  refine at_iadd C dL_law_876 ?_
  refine at_sld C hX hbl hbA hi2 dL_law_877 ?_
  refine at_aload_n C 0 dL_law_878 rfl ?_
  refine at_iload_n C 3 dL_law_879 rfl ?_
  refine at_iconst C (3 : Int32) dL_law_880 (by decide) ?_
  refine at_iadd C dL_law_881 ?_
  refine at_sld C hX hbl hbA hi3 dL_law_882 ?_
  refine at_Vi C (As := [.int (xs (y3 + (1 : Int32)).toNatClampNeg), .int (xs (y3 + (2 : Int32)).toNatClampNeg), .int (xs (y3 + (3 : Int32)).toNatClampNeg)]) (st := [.int r1]) (b := 30) (ci := 7) (ct_X7_tell u1 (xs (y3 + (1 : Int32)).toNatClampNeg) (xs (y3 + (2 : Int32)).toNatClampNeg) (xs (y3 + (3 : Int32)).toNatClampNeg) j1) mb_X7_tell ml_L_117 rfl rfl rfl (by decide) rfl (Nat.le_of_ble_eq_true rfl) dL_law_883 ?_
  rintro r2 u2 h2
  refine at_icmp_eq C 1083 dL_law_886 (by decide) (fun _ => ?_) (fun z => absurd ((ok_tell s0_ok h1 h2).2) z)
  exact hK _
set_option maxHeartbeats 4000000 in
set_option maxRecDepth 100000 in
theorem lc_25 {E : EV} {b L : Nat} {xs : Nat → Int32} (hL : L ≤ 5) (C : CX E code RL 1000) (en : e_n E = 4) (hX : va_X b L xs (e_s E) (e_s E).heap) (hbl : b < (e_s E).heap.size) (hbA : ¬ e_A E b) {y3 : Int32} (hi0 : vp_in y3 L) (hi1 : vp_in (y3 + (1 : Int32)) L) (hi2 : vp_in (y3 + (2 : Int32)) L) (hi3 : vp_in (y3 + (3 : Int32)) L) (hi4 : vp_in (y3 + (4 : Int32)) L) (hK : ∀ σ, AT E 1083 [(0, .ref b), (1, .ref (e_q E 0)), (2, .ref (e_q E 30)), (3, .int y3)] [] σ) : AT E 891 [(0, .ref b), (1, .ref (e_q E 0)), (2, .ref (e_q E 30)), (3, .int y3)] [] ac_s0 := by
  refine at_aload_n C 1 dL_law_891 rfl ?_
  refine at_aload_n C 0 dL_law_892 rfl ?_
  refine at_iload_n C 3 dL_law_893 rfl ?_
  refine at_iconst C (1 : Int32) dL_law_894 (by decide) ?_
  refine at_iadd C dL_law_895 ?_
  refine at_sld C hX hbl hbA hi1 dL_law_896 ?_
  refine at_aload_n C 0 dL_law_897 rfl ?_
  refine at_iload_n C 3 dL_law_898 rfl ?_
  refine at_iconst C (2 : Int32) dL_law_899 (by decide) ?_
  refine at_iadd C dL_law_900 ?_
  refine at_sld C hX hbl hbA hi2 dL_law_901 ?_
  refine at_Vi C (As := [.int (xs (y3 + (1 : Int32)).toNatClampNeg), .int (xs (y3 + (2 : Int32)).toNatClampNeg)]) (st := []) (b := 0) (ci := 6) (ct_X6_weeks ac_s0 (xs (y3 + (1 : Int32)).toNatClampNeg) (xs (y3 + (2 : Int32)).toNatClampNeg) s0_inv) mb_X6_weeks ml_L_118 rfl rfl rfl (by decide) rfl (Nat.le_of_ble_eq_true rfl) dL_law_902 ?_
  rintro r1 u1 ⟨h1, -, m1⟩
  refine at_aload_n C 2 dL_law_905 rfl ?_
  refine at_aload_n C 0 dL_law_906 rfl ?_
  refine at_iload_n C 3 dL_law_907 rfl ?_
  refine at_iconst C (1 : Int32) dL_law_908 (by decide) ?_
  refine at_iadd C dL_law_909 ?_
  refine at_sld C hX hbl hbA hi1 dL_law_910 ?_
  refine at_aload_n C 0 dL_law_911 rfl ?_
  refine at_iload_n C 3 dL_law_912 rfl ?_
  refine at_iconst C (2 : Int32) dL_law_913 (by decide) ?_
  refine at_iadd C dL_law_914 ?_
  refine at_sld C hX hbl hbA hi2 dL_law_915 ?_
  refine at_Vi C (As := [.int (xs (y3 + (1 : Int32)).toNatClampNeg), .int (xs (y3 + (2 : Int32)).toNatClampNeg)]) (st := [.int r1]) (b := 30) (ci := 7) (ct_X7_weeks u1 (xs (y3 + (1 : Int32)).toNatClampNeg) (xs (y3 + (2 : Int32)).toNatClampNeg) h1.1) mb_X7_weeks ml_L_121 rfl rfl rfl (by decide) rfl (Nat.le_of_ble_eq_true rfl) dL_law_916 ?_
  rintro r2 u2 ⟨h2, -, m2⟩
  refine at_icmp_eq C 1083 dL_law_919 (by decide) (fun _ => ?_) (fun z => absurd (eq_weeks s0_ok h1 m1 m2) z)
  exact hK _
set_option maxHeartbeats 4000000 in
set_option maxRecDepth 100000 in
theorem lc_26 {E : EV} {b L : Nat} {xs : Nat → Int32} (hL : L ≤ 5) (C : CX E code RL 1000) (en : e_n E = 4) (hX : va_X b L xs (e_s E) (e_s E).heap) (hbl : b < (e_s E).heap.size) (hbA : ¬ e_A E b) {y3 : Int32} (hi0 : vp_in y3 L) (hi1 : vp_in (y3 + (1 : Int32)) L) (hi2 : vp_in (y3 + (2 : Int32)) L) (hi3 : vp_in (y3 + (3 : Int32)) L) (hi4 : vp_in (y3 + (4 : Int32)) L) (hK : ∀ σ, AT E 1083 [(0, .ref b), (1, .ref (e_q E 0)), (2, .ref (e_q E 30)), (3, .int y3)] [] σ) : AT E 924 [(0, .ref b), (1, .ref (e_q E 0)), (2, .ref (e_q E 30)), (3, .int y3)] [] ac_s0 := by
  refine at_aload_n C 1 dL_law_924 rfl ?_
  refine at_aload_n C 0 dL_law_925 rfl ?_
  refine at_iload_n C 3 dL_law_926 rfl ?_
  refine at_iconst C (1 : Int32) dL_law_927 (by decide) ?_
  refine at_iadd C dL_law_928 ?_
  refine at_sld C hX hbl hbA hi1 dL_law_929 ?_
  refine at_aload_n C 0 dL_law_930 rfl ?_
  refine at_iload_n C 3 dL_law_931 rfl ?_
  refine at_iconst C (2 : Int32) dL_law_932 (by decide) ?_
  refine at_iadd C dL_law_933 ?_
  refine at_sld C hX hbl hbA hi2 dL_law_934 ?_
  refine at_Vi C (As := [.int (xs (y3 + (1 : Int32)).toNatClampNeg), .int (xs (y3 + (2 : Int32)).toNatClampNeg)]) (st := []) (b := 0) (ci := 6) (cz_X6_tower ac_s0 (xs (y3 + (1 : Int32)).toNatClampNeg) (xs (y3 + (2 : Int32)).toNatClampNeg) s0_inv ⟨by decide +kernel, by decide +kernel⟩) mb_X6_tower ml_L_122 rfl rfl rfl (by decide) rfl (Nat.le_of_ble_eq_true rfl) dL_law_935 ?_
  rintro _ _ ⟨rfl, rfl, j1⟩
  · refine at_aload_n C 2 dL_law_938 rfl ?_
    refine at_aload_n C 0 dL_law_939 rfl ?_
    refine at_iload_n C 3 dL_law_940 rfl ?_
    refine at_iconst C (1 : Int32) dL_law_941 (by decide) ?_
    refine at_iadd C dL_law_942 ?_
    refine at_sld C hX hbl hbA hi1 dL_law_943 ?_
    refine at_aload_n C 0 dL_law_944 rfl ?_
    refine at_iload_n C 3 dL_law_945 rfl ?_
    refine at_iconst C (2 : Int32) dL_law_946 (by decide) ?_
    refine at_iadd C dL_law_947 ?_
    refine at_sld C hX hbl hbA hi2 dL_law_948 ?_
    refine at_Vi C (As := [.int (xs (y3 + (1 : Int32)).toNatClampNeg), .int (xs (y3 + (2 : Int32)).toNatClampNeg)]) (st := [.int (-2 : Int32)]) (b := 30) (ci := 7) (cz_X7_tower ac_s0 (xs (y3 + (1 : Int32)).toNatClampNeg) (xs (y3 + (2 : Int32)).toNatClampNeg) j1 ⟨by decide +kernel, by decide +kernel⟩) mb_X7_tower ml_L_125 rfl rfl rfl (by decide) rfl (Nat.le_of_ble_eq_true rfl) dL_law_949 ?_
    rintro _ _ ⟨rfl, rfl, j2⟩
    · refine at_icmp_eq C 1083 dL_law_952 (by decide) (fun _ => ?_) (fun z => absurd (rfl) z)
      exact hK _
set_option maxHeartbeats 4000000 in
set_option maxRecDepth 100000 in
theorem lc_27 {E : EV} {b L : Nat} {xs : Nat → Int32} (hL : L ≤ 5) (C : CX E code RL 1000) (en : e_n E = 4) (hX : va_X b L xs (e_s E) (e_s E).heap) (hbl : b < (e_s E).heap.size) (hbA : ¬ e_A E b) {y3 : Int32} (hi0 : vp_in y3 L) (hi1 : vp_in (y3 + (1 : Int32)) L) (hi2 : vp_in (y3 + (2 : Int32)) L) (hi3 : vp_in (y3 + (3 : Int32)) L) (hi4 : vp_in (y3 + (4 : Int32)) L) (hK : ∀ σ, AT E 1083 [(0, .ref b), (1, .ref (e_q E 0)), (2, .ref (e_q E 30)), (3, .int y3)] [] σ) : AT E 957 [(0, .ref b), (1, .ref (e_q E 0)), (2, .ref (e_q E 30)), (3, .int y3)] [] ac_s0 := by
  refine at_aload_n C 1 dL_law_957 rfl ?_
  refine at_aload_n C 0 dL_law_958 rfl ?_
  refine at_iload_n C 3 dL_law_959 rfl ?_
  refine at_iconst C (1 : Int32) dL_law_960 (by decide) ?_
  refine at_iadd C dL_law_961 ?_
  refine at_sld C hX hbl hbA hi1 dL_law_962 ?_
  refine at_Vi C (As := [.int (xs (y3 + (1 : Int32)).toNatClampNeg)]) (st := []) (b := 0) (ci := 6) (cz_X6_free ac_s0 (xs (y3 + (1 : Int32)).toNatClampNeg) s0_inv ⟨by decide +kernel, by decide +kernel⟩) mb_X6_free ml_L_126 rfl rfl rfl (by decide) rfl (Nat.le_of_ble_eq_true rfl) dL_law_963 ?_
  rintro _ _ ⟨rfl, rfl, j1⟩
  · refine at_aload_n C 2 dL_law_966 rfl ?_
    refine at_aload_n C 0 dL_law_967 rfl ?_
    refine at_iload_n C 3 dL_law_968 rfl ?_
    refine at_iconst C (1 : Int32) dL_law_969 (by decide) ?_
    refine at_iadd C dL_law_970 ?_
    refine at_sld C hX hbl hbA hi1 dL_law_971 ?_
    refine at_Vi C (As := [.int (xs (y3 + (1 : Int32)).toNatClampNeg)]) (st := [.int (-2 : Int32)]) (b := 30) (ci := 7) (cz_X7_free ac_s0 (xs (y3 + (1 : Int32)).toNatClampNeg) j1 ⟨by decide +kernel, by decide +kernel⟩) mb_X7_free ml_L_129 rfl rfl rfl (by decide) rfl (Nat.le_of_ble_eq_true rfl) dL_law_972 ?_
    rintro _ _ ⟨rfl, rfl, j2⟩
    · refine at_icmp_eq C 1083 dL_law_975 (by decide) (fun _ => ?_) (fun z => absurd (rfl) z)
      exact hK _
set_option maxHeartbeats 4000000 in
set_option maxRecDepth 100000 in
theorem lc_28 {E : EV} {b L : Nat} {xs : Nat → Int32} (hL : L ≤ 5) (C : CX E code RL 1000) (en : e_n E = 4) (hX : va_X b L xs (e_s E) (e_s E).heap) (hbl : b < (e_s E).heap.size) (hbA : ¬ e_A E b) {y3 : Int32} (hi0 : vp_in y3 L) (hi1 : vp_in (y3 + (1 : Int32)) L) (hi2 : vp_in (y3 + (2 : Int32)) L) (hi3 : vp_in (y3 + (3 : Int32)) L) (hi4 : vp_in (y3 + (4 : Int32)) L) (hK : ∀ σ, AT E 1083 [(0, .ref b), (1, .ref (e_q E 0)), (2, .ref (e_q E 30)), (3, .int y3)] [] σ) : AT E 980 [(0, .ref b), (1, .ref (e_q E 0)), (2, .ref (e_q E 30)), (3, .int y3)] [] ac_s0 := by
  refine at_aload_n C 1 dL_law_980 rfl ?_
  refine at_aload_n C 0 dL_law_981 rfl ?_
  refine at_iload_n C 3 dL_law_982 rfl ?_
  refine at_iconst C (1 : Int32) dL_law_983 (by decide) ?_
  refine at_iadd C dL_law_984 ?_
  refine at_sld C hX hbl hbA hi1 dL_law_985 ?_
  refine at_aload_n C 0 dL_law_986 rfl ?_
  refine at_iload_n C 3 dL_law_987 rfl ?_
  refine at_iconst C (2 : Int32) dL_law_988 (by decide) ?_
  refine at_iadd C dL_law_989 ?_
  refine at_sld C hX hbl hbA hi2 dL_law_990 ?_
  refine at_Vi C (As := [.int (xs (y3 + (1 : Int32)).toNatClampNeg), .int (xs (y3 + (2 : Int32)).toNatClampNeg)]) (st := []) (b := 0) (ci := 6) (ct_X6_heard ac_s0 (xs (y3 + (1 : Int32)).toNatClampNeg) (xs (y3 + (2 : Int32)).toNatClampNeg) s0_inv) mb_X6_heard ml_L_130 rfl rfl rfl (by decide) rfl (Nat.le_of_ble_eq_true rfl) dL_law_991 ?_
  rintro r1 u1 h1
  have j1 := pi_X6_heard h1
  refine at_aload_n C 2 dL_law_994 rfl ?_
  refine at_aload_n C 0 dL_law_995 rfl ?_
  refine at_iload_n C 3 dL_law_996 rfl ?_
  refine at_iconst C (1 : Int32) dL_law_997 (by decide) ?_
  refine at_iadd C dL_law_998 ?_
  refine at_sld C hX hbl hbA hi1 dL_law_999 ?_
  refine at_aload_n C 0 dL_law_1000 rfl ?_
  refine at_iload_n C 3 dL_law_1001 rfl ?_
  refine at_iconst C (2 : Int32) dL_law_1002 (by decide) ?_
  refine at_iadd C dL_law_1003 ?_
  refine at_sld C hX hbl hbA hi2 dL_law_1004 ?_
  refine at_Vi C (As := [.int (xs (y3 + (1 : Int32)).toNatClampNeg), .int (xs (y3 + (2 : Int32)).toNatClampNeg)]) (st := [.int r1]) (b := 30) (ci := 7) (ct_X7_heard u1 (xs (y3 + (1 : Int32)).toNatClampNeg) (xs (y3 + (2 : Int32)).toNatClampNeg) j1) mb_X7_heard ml_L_133 rfl rfl rfl (by decide) rfl (Nat.le_of_ble_eq_true rfl) dL_law_1005 ?_
  rintro r2 u2 h2
  refine at_icmp_eq C 1083 dL_law_1008 (by decide) (fun _ => ?_) (fun z => absurd ((ok_heard s0_ok h1 h2).2) z)
  exact hK _
set_option maxHeartbeats 4000000 in
set_option maxRecDepth 100000 in
theorem lc_29 {E : EV} {b L : Nat} {xs : Nat → Int32} (hL : L ≤ 5) (C : CX E code RL 1000) (en : e_n E = 4) (hX : va_X b L xs (e_s E) (e_s E).heap) (hbl : b < (e_s E).heap.size) (hbA : ¬ e_A E b) {y3 : Int32} (hi0 : vp_in y3 L) (hi1 : vp_in (y3 + (1 : Int32)) L) (hi2 : vp_in (y3 + (2 : Int32)) L) (hi3 : vp_in (y3 + (3 : Int32)) L) (hi4 : vp_in (y3 + (4 : Int32)) L) (hK : ∀ σ, AT E 1083 [(0, .ref b), (1, .ref (e_q E 0)), (2, .ref (e_q E 30)), (3, .int y3)] [] σ) : AT E 1013 [(0, .ref b), (1, .ref (e_q E 0)), (2, .ref (e_q E 30)), (3, .int y3)] [] ac_s0 := by
  refine at_aload_n C 1 dL_law_1013 rfl ?_
  refine at_aload_n C 0 dL_law_1014 rfl ?_
  refine at_iload_n C 3 dL_law_1015 rfl ?_
  refine at_iconst C (1 : Int32) dL_law_1016 (by decide) ?_
  refine at_iadd C dL_law_1017 ?_
  refine at_sld C hX hbl hbA hi1 dL_law_1018 ?_
  refine at_aload_n C 0 dL_law_1019 rfl ?_
  refine at_iload_n C 3 dL_law_1020 rfl ?_
  refine at_iconst C (2 : Int32) dL_law_1021 (by decide) ?_
  refine at_iadd C dL_law_1022 ?_
  refine at_sld C hX hbl hbA hi2 dL_law_1023 ?_
  refine at_Vi C (As := [.int (xs (y3 + (1 : Int32)).toNatClampNeg), .int (xs (y3 + (2 : Int32)).toNatClampNeg)]) (st := []) (b := 0) (ci := 6) (ct_X6_could ac_s0 (xs (y3 + (1 : Int32)).toNatClampNeg) (xs (y3 + (2 : Int32)).toNatClampNeg) s0_inv) mb_X6_could ml_L_134 rfl rfl rfl (by decide) rfl (Nat.le_of_ble_eq_true rfl) dL_law_1024 ?_
  rintro r1 _ ⟨rfl, -, h1⟩
  refine at_aload_n C 2 dL_law_1027 rfl ?_
  refine at_aload_n C 0 dL_law_1028 rfl ?_
  refine at_iload_n C 3 dL_law_1029 rfl ?_
  refine at_iconst C (1 : Int32) dL_law_1030 (by decide) ?_
  refine at_iadd C dL_law_1031 ?_
  refine at_sld C hX hbl hbA hi1 dL_law_1032 ?_
  refine at_aload_n C 0 dL_law_1033 rfl ?_
  refine at_iload_n C 3 dL_law_1034 rfl ?_
  refine at_iconst C (2 : Int32) dL_law_1035 (by decide) ?_
  refine at_iadd C dL_law_1036 ?_
  refine at_sld C hX hbl hbA hi2 dL_law_1037 ?_
  refine at_Vi C (As := [.int (xs (y3 + (1 : Int32)).toNatClampNeg), .int (xs (y3 + (2 : Int32)).toNatClampNeg)]) (st := [.int r1]) (b := 30) (ci := 7) (ct_X7_could ac_s0 (xs (y3 + (1 : Int32)).toNatClampNeg) (xs (y3 + (2 : Int32)).toNatClampNeg) s0_inv) mb_X7_could ml_L_137 rfl rfl rfl (by decide) rfl (Nat.le_of_ble_eq_true rfl) dL_law_1038 ?_
  rintro r2 _ ⟨rfl, -, h2⟩
  refine at_icmp_eq C 1083 dL_law_1041 (by decide) (fun _ => ?_) (fun z => absurd (eq_could s0_ok h1 h2) z)
  exact hK _
set_option maxHeartbeats 4000000 in
set_option maxRecDepth 100000 in
theorem lc_30 {E : EV} {b L : Nat} {xs : Nat → Int32} (hL : L ≤ 5) (C : CX E code RL 1000) (en : e_n E = 4) (hX : va_X b L xs (e_s E) (e_s E).heap) (hbl : b < (e_s E).heap.size) (hbA : ¬ e_A E b) {y3 : Int32} (hi0 : vp_in y3 L) (hi1 : vp_in (y3 + (1 : Int32)) L) (hi2 : vp_in (y3 + (2 : Int32)) L) (hi3 : vp_in (y3 + (3 : Int32)) L) (hi4 : vp_in (y3 + (4 : Int32)) L) (hK : ∀ σ, AT E 1083 [(0, .ref b), (1, .ref (e_q E 0)), (2, .ref (e_q E 30)), (3, .int y3)] [] σ) : AT E 1046 [(0, .ref b), (1, .ref (e_q E 0)), (2, .ref (e_q E 30)), (3, .int y3)] [] ac_s0 := by
  refine at_aload_n C 1 dL_law_1046 rfl ?_
  refine at_aload_n C 0 dL_law_1047 rfl ?_
  refine at_iload_n C 3 dL_law_1048 rfl ?_
  refine at_iconst C (1 : Int32) dL_law_1049 (by decide) ?_
  refine at_iadd C dL_law_1050 ?_
  refine at_sld C hX hbl hbA hi1 dL_law_1051 ?_
  refine at_Vi C (As := [.int (xs (y3 + (1 : Int32)).toNatClampNeg)]) (st := []) (b := 0) (ci := 6) (cz_X6_count ac_s0 (xs (y3 + (1 : Int32)).toNatClampNeg) s0_inv ⟨by decide +kernel, by decide +kernel⟩ ⟨by decide +kernel, by decide +kernel⟩ ⟨by decide +kernel, by decide +kernel⟩ ⟨by decide +kernel, by decide +kernel⟩) mb_X6_count ml_L_138 rfl rfl rfl (by decide) rfl (Nat.le_of_ble_eq_true rfl) dL_law_1052 ?_
  rintro _ _ (⟨c1_0, rfl, rfl, j1⟩ | ⟨c1_0, rfl, rfl, j1⟩)
  · refine at_aload_n C 2 dL_law_1055 rfl ?_
    refine at_aload_n C 0 dL_law_1056 rfl ?_
    refine at_iload_n C 3 dL_law_1057 rfl ?_
    refine at_iconst C (1 : Int32) dL_law_1058 (by decide) ?_
    refine at_iadd C dL_law_1059 ?_
    refine at_sld C hX hbl hbA hi1 dL_law_1060 ?_
    refine at_Vi C (As := [.int (xs (y3 + (1 : Int32)).toNatClampNeg)]) (st := [.int (-2 : Int32)]) (b := 30) (ci := 7) (cz_X7_count ac_s0 (xs (y3 + (1 : Int32)).toNatClampNeg) j1 ⟨by decide +kernel, by decide +kernel⟩ ⟨by decide +kernel, by decide +kernel⟩ ⟨by decide +kernel, by decide +kernel⟩) mb_X7_count ml_L_141 rfl rfl rfl (by decide) rfl (Nat.le_of_ble_eq_true rfl) dL_law_1061 ?_
    rintro _ _ (⟨c2_0, rfl, rfl, j2⟩ | ⟨c2_0, rfl, rfl, j2⟩)
    · refine at_icmp_eq C 1083 dL_law_1064 (by decide) (fun _ => ?_) (fun z => absurd (rfl) z)
      exact hK _
    · exact absurd c2_0 c1_0
  · refine at_aload_n C 2 dL_law_1055 rfl ?_
    refine at_aload_n C 0 dL_law_1056 rfl ?_
    refine at_iload_n C 3 dL_law_1057 rfl ?_
    refine at_iconst C (1 : Int32) dL_law_1058 (by decide) ?_
    refine at_iadd C dL_law_1059 ?_
    refine at_sld C hX hbl hbA hi1 dL_law_1060 ?_
    refine at_Vi C (As := [.int (xs (y3 + (1 : Int32)).toNatClampNeg)]) (st := [.int (0 : Int32)]) (b := 30) (ci := 7) (cz_X7_count ac_s0 (xs (y3 + (1 : Int32)).toNatClampNeg) j1 ⟨by decide +kernel, by decide +kernel⟩ ⟨by decide +kernel, by decide +kernel⟩ ⟨by decide +kernel, by decide +kernel⟩) mb_X7_count ml_L_141 rfl rfl rfl (by decide) rfl (Nat.le_of_ble_eq_true rfl) dL_law_1061 ?_
    rintro _ _ (⟨c2_0, rfl, rfl, j2⟩ | ⟨c2_0, rfl, rfl, j2⟩)
    · exact absurd c1_0 c2_0
    · refine at_icmp_eq C 1083 dL_law_1064 (by decide) (fun _ => ?_) (fun z => absurd (rfl) z)
      exact hK _
set_option maxHeartbeats 4000000 in
set_option maxRecDepth 100000 in
theorem lc_31 {E : EV} {b L : Nat} {xs : Nat → Int32} (hL : L ≤ 5) (C : CX E code RL 1000) (en : e_n E = 4) (hX : va_X b L xs (e_s E) (e_s E).heap) (hbl : b < (e_s E).heap.size) (hbA : ¬ e_A E b) {y3 : Int32} (hi0 : vp_in y3 L) (hi1 : vp_in (y3 + (1 : Int32)) L) (hi2 : vp_in (y3 + (2 : Int32)) L) (hi3 : vp_in (y3 + (3 : Int32)) L) (hi4 : vp_in (y3 + (4 : Int32)) L) (hK : ∀ σ, AT E 1083 [(0, .ref b), (1, .ref (e_q E 0)), (2, .ref (e_q E 30)), (3, .int y3)] [] σ) : AT E 1069 [(0, .ref b), (1, .ref (e_q E 0)), (2, .ref (e_q E 30)), (3, .int y3)] [] ac_s0 := by
  refine at_aload_n C 1 dL_law_1069 rfl ?_
  refine at_Vl C (As := []) (st := []) (b := 0) (ci := 6) (cz_X6_digest ac_s0  s0_inv ⟨by decide +kernel, by decide +kernel⟩ ⟨by decide +kernel, by decide +kernel⟩ ⟨by decide +kernel, by decide +kernel⟩ ⟨by decide +kernel, by decide +kernel⟩) mb_X6_digest ml_L_142 rfl rfl rfl (by decide) rfl (Nat.le_of_ble_eq_true rfl) dL_law_1070 ?_
  rintro _ _ ⟨rfl, rfl, j1⟩
  · refine at_aload_n C 2 dL_law_1073 rfl ?_
    refine at_Vl C (As := []) (st := [.long (((31 : Int64) * (((31 : Int64) * (((31 : Int64) * (((31 : Int64) * (((31 : Int64) * (((31 : Int64) * (((31 : Int64) * (((31 : Int64) * (((31 : Int64) * (((31 : Int64) * (((31 : Int64) * (((31 : Int64) * (((31 : Int64) * (((31 : Int64) * (((31 : Int64) * (((31 : Int64) * (((31 : Int64) * (((31 : Int64) * (((31 : Int64) * (((31 : Int64) * (((31 : Int64) * (((31 : Int64) * (((31 : Int64) * (((31 : Int64) * (((31 : Int64) * (((31 : Int64) * (((31 : Int64) * (((31 : Int64) * (401 : Int64)) + ((0 : Int32)).toInt64)) + ((0 : Int32)).toInt64)) + ((0 : Int32)).toInt64)) + ((0 : Int32)).toInt64)) + ((ac_gi ac_s0 1)).toInt64)) + ((ac_gi ac_s0 2)).toInt64)) + ((ac_gi ac_s0 5)).toInt64)) + ((ac_gi ac_s0 6)).toInt64)) + ((ac_ga ac_s0 7 ((0 : Int32)).toNatClampNeg)).toInt64)) + ((ac_ga ac_s0 7 (((0 : Int32) + (1 : Int32))).toNatClampNeg)).toInt64)) + ((ac_ga ac_s0 7 ((((0 : Int32) + (1 : Int32)) + (1 : Int32))).toNatClampNeg)).toInt64)) + ((ac_ga ac_s0 7 (((((0 : Int32) + (1 : Int32)) + (1 : Int32)) + (1 : Int32))).toNatClampNeg)).toInt64)) + ((ac_ga ac_s0 7 ((((((0 : Int32) + (1 : Int32)) + (1 : Int32)) + (1 : Int32)) + (1 : Int32))).toNatClampNeg)).toInt64)) + ((ac_ga ac_s0 7 (((((((0 : Int32) + (1 : Int32)) + (1 : Int32)) + (1 : Int32)) + (1 : Int32)) + (1 : Int32))).toNatClampNeg)).toInt64)) + ((ac_ga ac_s0 7 ((((((((0 : Int32) + (1 : Int32)) + (1 : Int32)) + (1 : Int32)) + (1 : Int32)) + (1 : Int32)) + (1 : Int32))).toNatClampNeg)).toInt64)) + ((ac_ga ac_s0 7 (((((((((0 : Int32) + (1 : Int32)) + (1 : Int32)) + (1 : Int32)) + (1 : Int32)) + (1 : Int32)) + (1 : Int32)) + (1 : Int32))).toNatClampNeg)).toInt64)) + ((ac_ga ac_s0 7 ((((((((((0 : Int32) + (1 : Int32)) + (1 : Int32)) + (1 : Int32)) + (1 : Int32)) + (1 : Int32)) + (1 : Int32)) + (1 : Int32)) + (1 : Int32))).toNatClampNeg)).toInt64)) + ((ac_ga ac_s0 7 (((((((((((0 : Int32) + (1 : Int32)) + (1 : Int32)) + (1 : Int32)) + (1 : Int32)) + (1 : Int32)) + (1 : Int32)) + (1 : Int32)) + (1 : Int32)) + (1 : Int32))).toNatClampNeg)).toInt64)) + ((ac_ga ac_s0 7 ((((((((((((0 : Int32) + (1 : Int32)) + (1 : Int32)) + (1 : Int32)) + (1 : Int32)) + (1 : Int32)) + (1 : Int32)) + (1 : Int32)) + (1 : Int32)) + (1 : Int32)) + (1 : Int32))).toNatClampNeg)).toInt64)) + ((ac_ga ac_s0 7 (((((((((((((0 : Int32) + (1 : Int32)) + (1 : Int32)) + (1 : Int32)) + (1 : Int32)) + (1 : Int32)) + (1 : Int32)) + (1 : Int32)) + (1 : Int32)) + (1 : Int32)) + (1 : Int32)) + (1 : Int32))).toNatClampNeg)).toInt64)) + ((ac_ga ac_s0 7 ((((((((((((((0 : Int32) + (1 : Int32)) + (1 : Int32)) + (1 : Int32)) + (1 : Int32)) + (1 : Int32)) + (1 : Int32)) + (1 : Int32)) + (1 : Int32)) + (1 : Int32)) + (1 : Int32)) + (1 : Int32)) + (1 : Int32))).toNatClampNeg)).toInt64)) + ((ac_ga ac_s0 7 (((((((((((((((0 : Int32) + (1 : Int32)) + (1 : Int32)) + (1 : Int32)) + (1 : Int32)) + (1 : Int32)) + (1 : Int32)) + (1 : Int32)) + (1 : Int32)) + (1 : Int32)) + (1 : Int32)) + (1 : Int32)) + (1 : Int32)) + (1 : Int32))).toNatClampNeg)).toInt64)) + ((ac_ga ac_s0 7 ((((((((((((((((0 : Int32) + (1 : Int32)) + (1 : Int32)) + (1 : Int32)) + (1 : Int32)) + (1 : Int32)) + (1 : Int32)) + (1 : Int32)) + (1 : Int32)) + (1 : Int32)) + (1 : Int32)) + (1 : Int32)) + (1 : Int32)) + (1 : Int32)) + (1 : Int32))).toNatClampNeg)).toInt64)) + ((ac_ga ac_s0 7 (((((((((((((((((0 : Int32) + (1 : Int32)) + (1 : Int32)) + (1 : Int32)) + (1 : Int32)) + (1 : Int32)) + (1 : Int32)) + (1 : Int32)) + (1 : Int32)) + (1 : Int32)) + (1 : Int32)) + (1 : Int32)) + (1 : Int32)) + (1 : Int32)) + (1 : Int32)) + (1 : Int32))).toNatClampNeg)).toInt64)) + ((0 : Int32)).toInt64)) + ((0 : Int32)).toInt64)) + ((0 : Int32)).toInt64)) + ((0 : Int32)).toInt64)]) (b := 30) (ci := 7) (cz_X7_digest ((ac_si (ac_si (ac_si ac_s0 7 (0 : Int32)) 8 (0 : Int32)) 9 (0 : Int32)))  j1 ⟨by decide +kernel, by decide +kernel⟩ ⟨by decide +kernel, by decide +kernel⟩ ⟨by decide +kernel, by decide +kernel⟩) mb_X7_digest ml_L_146 rfl rfl rfl (by decide) rfl (Nat.le_of_ble_eq_true rfl) dL_law_1074 ?_
    rintro _ _ ⟨rfl, rfl, j2⟩
    · refine at_lcmp C dL_law_1077 ?_
      refine at_if_eq C 1083 dL_law_1078 (by decide) (fun _ => ?_) (fun z => absurd ((by decide +kernel)) z)
      exact hK _
set_option maxHeartbeats 4000000 in
set_option maxRecDepth 100000 in
theorem law_loop {E : EV} {b L : Nat} {xs : Nat → Int32} (hL : L ≤ 5) (C : CX E code RL 1000) (en : e_n E = 4) (hX : va_X b L xs (e_s E) (e_s E).heap) (hbl : b < (e_s E).heap.size) (hbA : ¬ e_A E b) (hR : ∀ (pc : Nat) (lv : List (Nat × Value)) (σ : SS), decode code pc = .ok (.ireturn, 1) → AT E pc lv [.int 1] σ) : ∀ (n : Nat) (y3 : Int32) (σ : SS), ((L : Int) - y3.toInt).toNat < n → 0 ≤ y3.toInt → y3.toInt ≤ L → (y3 = 0 → σ = ac_s0) → AT E 18 [(0, .ref b), (1, .ref (e_q E 0)), (2, .ref (e_q E 30)), (3, .int y3)] [] σ := by
  intro n
  induction n with
  | zero => intro y3 σ hm; exact absurd hm (Nat.not_lt_zero _)
  | succ n ih =>
    intro y3 σ hm h0 h1 hOk
    have hn3 : 3 < e_n E := by rw [en]; decide
    have eL : (Int32.ofNat L).toInt = (L : Int) := nI_toInt (n := L) (by omega)
    have e5 : (Int32.ofNat L - 5).toInt = (L : Int) - 5 := by
      rw [ti_sub (a := (L : Int)) (b := (L : Int)) (x := Int32.ofNat L) ⟨by rw [eL]; exact Int.le_refl _, by rw [eL]; exact Int.le_refl _⟩ (iv_c (c := 5) (x := (5 : Int32)) (by decide)) (by omega) (by omega), eL]; rfl
    refine at_iload_n C 3 dL_law_18 rfl ?_
    refine at_aload_n C 0 dL_law_19 rfl ?_
    refine at_slen C hX hbl hbA dL_law_20 ?_
    refine at_iconst C (5 : Int32) dL_law_21 (by decide) ?_
    refine at_isub C dL_law_22 ?_
    refine at_icmp_gt C 1089 dL_law_23 (by decide) (fun c1 => ?_) (fun c1 => ?_)
    · refine at_iconst C (1 : Int32) dL_law_1089 (by decide) ?_
      exact hR _ _ _ dL_law_1090
    · have c2 := iv_nlt c1
      rw [e5] at c2
      have hy : iv 0 2555 y3 := ⟨h0, by omega⟩
      have hi0 : vp_in y3 L := vp_in_iff.mpr ⟨h0, by omega⟩
      have t1 := ac_ti1 hy (iv_c (c := 1) (x := (1 : Int32)) (by decide)) (by decide) (by decide) (by decide)
      have hi1 : vp_in (y3 + (1 : Int32)) L := vp_in_iff.mpr ⟨by omega, by omega⟩
      have t2 := ac_ti1 hy (iv_c (c := 2) (x := (2 : Int32)) (by decide)) (by decide) (by decide) (by decide)
      have hi2 : vp_in (y3 + (2 : Int32)) L := vp_in_iff.mpr ⟨by omega, by omega⟩
      have t3 := ac_ti1 hy (iv_c (c := 3) (x := (3 : Int32)) (by decide)) (by decide) (by decide) (by decide)
      have hi3 : vp_in (y3 + (3 : Int32)) L := vp_in_iff.mpr ⟨by omega, by omega⟩
      have t4 := ac_ti1 hy (iv_c (c := 4) (x := (4 : Int32)) (by decide)) (by decide) (by decide) (by decide)
      have hi4 : vp_in (y3 + (4 : Int32)) L := vp_in_iff.mpr ⟨by omega, by omega⟩
      have t5 := ac_ti1 hy (iv_c (c := 5) (x := (5 : Int32)) (by decide)) (by decide) (by decide) (by decide)
      have hK : ∀ σ, AT E 1083 [(0, .ref b), (1, .ref (e_q E 0)), (2, .ref (e_q E 30)), (3, .int y3)] [] σ := by
        intro σ
        refine at_iinc C (v := (y3 + (5 : Int32))) (lv' := [(3, .int (y3 + (5 : Int32))), (0, .ref b), (1, .ref (e_q E 0)), (2, .ref (e_q E 30))]) 3 dL_law_1083 rfl rfl hn3 rfl ?_
        refine at_goto C 18 dL_law_1086 (by decide) ?_
        exact at_sub [1, 2, 3, 0] rfl (ih (y3 + (5 : Int32)) σ (by omega) (by omega) (by omega) (fun z => by rw [z] at t5; have z0 : (0 : Int32).toInt = 0 := (by decide); omega))
      refine at_aload_n C 0 dL_law_26 rfl ?_
      refine at_iload_n C 3 dL_law_27 rfl ?_
      refine at_sld C hX hbl hbA hi0 dL_law_28 ?_
      refine at_bipush C (31 : Int32) dL_law_29 (by decide) ?_
      refine at_iand C dL_law_31 ?_
      have ey : y3 = 0 := Int32.toInt_inj.mp (by have z0 : (0 : Int32).toInt = 0 := (by decide); omega)
      have es := hOk ey
      subst es
      have hv : iv 0 31 (xs y3.toNatClampNeg &&& 31) := iv_andr (iv_wk (c := 0) (iv_c (c := 31) (x := (31 : Int32)) (by decide)) (by decide) (Int.le_refl _))
      obtain ⟨k, ek, ek2, hk⟩ := nI_iv hv
      have hk32 : k < 32 := by have := hv.2; omega
      rw [ek]
      by_cases c0_ : k = 0
      · subst c0_; exact at_tabIn C 176 dL_law_32 (by decide) (by decide) rfl (by decide) (lc_0 hL C en hX hbl hbA hi0 hi1 hi2 hi3 hi4 hK)
      by_cases c1_ : k = 1
      · subst c1_; exact at_tabIn C 189 dL_law_32 (by decide) (by decide) rfl (by decide) (lc_1 hL C en hX hbl hbA hi0 hi1 hi2 hi3 hi4 hK)
      by_cases c2_ : k = 2
      · subst c2_; exact at_tabIn C 212 dL_law_32 (by decide) (by decide) rfl (by decide) (lc_2 hL C en hX hbl hbA hi0 hi1 hi2 hi3 hi4 hK)
      by_cases c3_ : k = 3
      · subst c3_; exact at_tabIn C 255 dL_law_32 (by decide) (by decide) rfl (by decide) (lc_3 hL C en hX hbl hbA hi0 hi1 hi2 hi3 hi4 hK)
      by_cases c4_ : k = 4
      · subst c4_; exact at_tabIn C 288 dL_law_32 (by decide) (by decide) rfl (by decide) (lc_4 hL C en hX hbl hbA hi0 hi1 hi2 hi3 hi4 hK)
      by_cases c5_ : k = 5
      · subst c5_; exact at_tabIn C 311 dL_law_32 (by decide) (by decide) rfl (by decide) (lc_5 hL C en hX hbl hbA hi0 hi1 hi2 hi3 hi4 hK)
      by_cases c6_ : k = 6
      · subst c6_; exact at_tabIn C 334 dL_law_32 (by decide) (by decide) rfl (by decide) (lc_6 hL C en hX hbl hbA hi0 hi1 hi2 hi3 hi4 hK)
      by_cases c7_ : k = 7
      · subst c7_; exact at_tabIn C 357 dL_law_32 (by decide) (by decide) rfl (by decide) (lc_7 hL C en hX hbl hbA hi0 hi1 hi2 hi3 hi4 hK)
      by_cases c8_ : k = 8
      · subst c8_; exact at_tabIn C 390 dL_law_32 (by decide) (by decide) rfl (by decide) (lc_8 hL C en hX hbl hbA hi0 hi1 hi2 hi3 hi4 hK)
      by_cases c9_ : k = 9
      · subst c9_; exact at_tabIn C 413 dL_law_32 (by decide) (by decide) rfl (by decide) (lc_9 hL C en hX hbl hbA hi0 hi1 hi2 hi3 hi4 hK)
      by_cases c10_ : k = 10
      · subst c10_; exact at_tabIn C 436 dL_law_32 (by decide) (by decide) rfl (by decide) (lc_10 hL C en hX hbl hbA hi0 hi1 hi2 hi3 hi4 hK)
      by_cases c11_ : k = 11
      · subst c11_; exact at_tabIn C 479 dL_law_32 (by decide) (by decide) rfl (by decide) (lc_11 hL C en hX hbl hbA hi0 hi1 hi2 hi3 hi4 hK)
      by_cases c12_ : k = 12
      · subst c12_; exact at_tabIn C 512 dL_law_32 (by decide) (by decide) rfl (by decide) (lc_12 hL C en hX hbl hbA hi0 hi1 hi2 hi3 hi4 hK)
      by_cases c13_ : k = 13
      · subst c13_; exact at_tabIn C 535 dL_law_32 (by decide) (by decide) rfl (by decide) (lc_13 hL C en hX hbl hbA hi0 hi1 hi2 hi3 hi4 hK)
      by_cases c14_ : k = 14
      · subst c14_; exact at_tabIn C 558 dL_law_32 (by decide) (by decide) rfl (by decide) (lc_14 hL C en hX hbl hbA hi0 hi1 hi2 hi3 hi4 hK)
      by_cases c15_ : k = 15
      · subst c15_; exact at_tabIn C 581 dL_law_32 (by decide) (by decide) rfl (by decide) (lc_15 hL C en hX hbl hbA hi0 hi1 hi2 hi3 hi4 hK)
      by_cases c16_ : k = 16
      · subst c16_; exact at_tabIn C 614 dL_law_32 (by decide) (by decide) rfl (by decide) (lc_16 hL C en hX hbl hbA hi0 hi1 hi2 hi3 hi4 hK)
      by_cases c17_ : k = 17
      · subst c17_; exact at_tabIn C 667 dL_law_32 (by decide) (by decide) rfl (by decide) (lc_17 hL C en hX hbl hbA hi0 hi1 hi2 hi3 hi4 hK)
      by_cases c18_ : k = 18
      · subst c18_; exact at_tabIn C 680 dL_law_32 (by decide) (by decide) rfl (by decide) (lc_18 hL C en hX hbl hbA hi0 hi1 hi2 hi3 hi4 hK)
      by_cases c19_ : k = 19
      · subst c19_; exact at_tabIn C 723 dL_law_32 (by decide) (by decide) rfl (by decide) (lc_19 hL C en hX hbl hbA hi0 hi1 hi2 hi3 hi4 hK)
      by_cases c20_ : k = 20
      · subst c20_; exact at_tabIn C 756 dL_law_32 (by decide) (by decide) rfl (by decide) (lc_20 hL C en hX hbl hbA hi0 hi1 hi2 hi3 hi4 hK)
      by_cases c21_ : k = 21
      · subst c21_; exact at_tabIn C 779 dL_law_32 (by decide) (by decide) rfl (by decide) (lc_21 hL C en hX hbl hbA hi0 hi1 hi2 hi3 hi4 hK)
      by_cases c22_ : k = 22
      · subst c22_; exact at_tabIn C 812 dL_law_32 (by decide) (by decide) rfl (by decide) (lc_22 hL C en hX hbl hbA hi0 hi1 hi2 hi3 hi4 hK)
      by_cases c23_ : k = 23
      · subst c23_; exact at_tabIn C 835 dL_law_32 (by decide) (by decide) rfl (by decide) (lc_23 hL C en hX hbl hbA hi0 hi1 hi2 hi3 hi4 hK)
      by_cases c24_ : k = 24
      · subst c24_; exact at_tabIn C 848 dL_law_32 (by decide) (by decide) rfl (by decide) (lc_24 hL C en hX hbl hbA hi0 hi1 hi2 hi3 hi4 hK)
      by_cases c25_ : k = 25
      · subst c25_; exact at_tabIn C 891 dL_law_32 (by decide) (by decide) rfl (by decide) (lc_25 hL C en hX hbl hbA hi0 hi1 hi2 hi3 hi4 hK)
      by_cases c26_ : k = 26
      · subst c26_; exact at_tabIn C 924 dL_law_32 (by decide) (by decide) rfl (by decide) (lc_26 hL C en hX hbl hbA hi0 hi1 hi2 hi3 hi4 hK)
      by_cases c27_ : k = 27
      · subst c27_; exact at_tabIn C 957 dL_law_32 (by decide) (by decide) rfl (by decide) (lc_27 hL C en hX hbl hbA hi0 hi1 hi2 hi3 hi4 hK)
      by_cases c28_ : k = 28
      · subst c28_; exact at_tabIn C 980 dL_law_32 (by decide) (by decide) rfl (by decide) (lc_28 hL C en hX hbl hbA hi0 hi1 hi2 hi3 hi4 hK)
      by_cases c29_ : k = 29
      · subst c29_; exact at_tabIn C 1013 dL_law_32 (by decide) (by decide) rfl (by decide) (lc_29 hL C en hX hbl hbA hi0 hi1 hi2 hi3 hi4 hK)
      by_cases c30_ : k = 30
      · subst c30_; exact at_tabIn C 1046 dL_law_32 (by decide) (by decide) rfl (by decide) (lc_30 hL C en hX hbl hbA hi0 hi1 hi2 hi3 hi4 hK)
      by_cases c31_ : k = 31
      · subst c31_; exact at_tabIn C 1069 dL_law_32 (by decide) (by decide) rfl (by decide) (lc_31 hL C en hX hbl hbA hi0 hi1 hi2 hi3 hi4 hK)
      exact absurd hk32 (by omega)
