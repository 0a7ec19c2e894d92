set_option maxHeartbeats 4000000 in
set_option maxRecDepth 100000 in
theorem cs_setLevel {G : GT} {C : CT} {V : Mm} {b L i : Nat} {xs : Nat → Int32} {s : Sv} {n z : Nat} {h : Nat → Sv} {B : Int} {tx : Tx} {ln : Nat} (hx : Cx G mL_law 12 C) (hX : SX G C b L xs) (hi : 5 * i + 5 ≤ L) (hL : LI V s n z h B tx ln) (hB0 : 0 ≤ B) (hB : B + 2100000 < 2147483648) (kk : ∀ (V2 : Mm) (s2 : Sv) (n2 z2 : Nat) (h2 : Nat → Sv) (tx2 : Tx) (ln2 : Nat), LI V2 s2 n2 z2 h2 (B + 2100000) tx2 ln2 → Ew G C V2 1018 [some (.ref b), some (adr G 0), some (adr G 532), some (.int (nI (5 * i)))] []) : Ew G C V 168 [some (.ref b), some (adr G 0), some (adr G 532), some (.int (nI (5 * i)))] [] := by
  have hC := hL.1
  have hW := hC.2.2.2.2.2.1.1
  refine Ew.aload_n hx dL_law_168 rfl ?_
  refine Ew.aload_n hx dL_law_169 rfl ?_
  refine Ew.iload_n hx dL_law_170 rfl ?_
  refine Ew.iconst hx dL_law_171 k_iconst_1 ?_
  refine Ew.iadd' hx dL_law_172 (nI_add (5 * i) 1) ?_
  refine Ew.sld hx dL_law_173 hX (i := 5 * i + 1) rfl (by omega) ?_
  refine Ew.callV2 (y' := mX11_setLevel) hx dL_law_174 ml_RL_13 cf_X11_setLevel cv_X11_setLevel (ct_X11_setLevel G V hC hB0 (by omega) _) rfl oc_0 rfl (by decide) (by decide) rfl (Nat.le_of_ble_eq_true rfl) ?_
  rintro v V1 hA1; obtain rfl := act_v hA1; have h1 := li_1 hL hA1.1
  refine Ew.aload_n hx dL_law_177 rfl ?_
  refine Ew.aload_n hx dL_law_178 rfl ?_
  refine Ew.iload_n hx dL_law_179 rfl ?_
  refine Ew.iconst hx dL_law_180 k_iconst_1 ?_
  refine Ew.iadd' hx dL_law_181 (nI_add (5 * i) 1) ?_
  refine Ew.sld hx dL_law_182 hX (i := 5 * i + 1) rfl (by omega) ?_
  refine Ew.callV2 (y' := mX12_setLevel) hx dL_law_183 ml_RL_17 cf_X12_setLevel cv_X12_setLevel (ct_X12_setLevel G V1 h1.1 hW h1.2.1 _) rfl oc_19 rfl (by decide) (by decide) rfl (Nat.le_of_ble_eq_true rfl) ?_
  rintro v2 V2 hA2; obtain rfl := mact_v hA2
  refine Ew.icmp_eq_t hx (tgt := 1018) dL_law_186 rfl (rfl) ?_
  obtain ⟨s2, n2, z2, h2, hl2⟩ := li_act hL hA1 hA2 (by omega)
  exact kk _ _ _ _ _ _ _ hl2
set_option maxHeartbeats 4000000 in
set_option maxRecDepth 100000 in
theorem cs_setRate {G : GT} {C : CT} {V : Mm} {b L i : Nat} {xs : Nat → Int32} {s : Sv} {n z : Nat} {h : Nat → Sv} {B : Int} {tx : Tx} {ln : Nat} (hx : Cx G mL_law 12 C) (hX : SX G C b L xs) (hi : 5 * i + 5 ≤ L) (hL : LI V s n z h B tx ln) (hB0 : 0 ≤ B) (hB : B + 2100000 < 2147483648) (kk : ∀ (V2 : Mm) (s2 : Sv) (n2 z2 : Nat) (h2 : Nat → Sv) (tx2 : Tx) (ln2 : Nat), LI V2 s2 n2 z2 h2 (B + 2100000) tx2 ln2 → Ew G C V2 1018 [some (.ref b), some (adr G 0), some (adr G 532), some (.int (nI (5 * i)))] []) : Ew G C V 191 [some (.ref b), some (adr G 0), some (adr G 532), some (.int (nI (5 * i)))] [] := by
  have hC := hL.1
  have hW := hC.2.2.2.2.2.1.1
  refine Ew.aload_n hx dL_law_191 rfl ?_
  refine Ew.aload_n hx dL_law_192 rfl ?_
  refine Ew.iload_n hx dL_law_193 rfl ?_
  refine Ew.iconst hx dL_law_194 k_iconst_1 ?_
  refine Ew.iadd' hx dL_law_195 (nI_add (5 * i) 1) ?_
  refine Ew.sld hx dL_law_196 hX (i := 5 * i + 1) rfl (by omega) ?_
  refine Ew.aload_n hx dL_law_197 rfl ?_
  refine Ew.iload_n hx dL_law_198 rfl ?_
  refine Ew.iconst hx dL_law_199 k_iconst_2 ?_
  refine Ew.iadd' hx dL_law_200 (nI_add (5 * i) 2) ?_
  refine Ew.sld hx dL_law_201 hX (i := 5 * i + 2) rfl (by omega) ?_
  refine Ew.callV2 (y' := mX11_setRate) hx dL_law_202 ml_RL_18 cf_X11_setRate cv_X11_setRate (ct_X11_setRate G V hC hB0 (by omega) _ _) rfl oc_0 rfl (by decide) (by decide) rfl (Nat.le_of_ble_eq_true rfl) ?_
  rintro v V1 hA1; obtain rfl := act_v hA1; have h1 := li_1 hL hA1.1
  refine Ew.aload_n hx dL_law_205 rfl ?_
  refine Ew.aload_n hx dL_law_206 rfl ?_
  refine Ew.iload_n hx dL_law_207 rfl ?_
  refine Ew.iconst hx dL_law_208 k_iconst_1 ?_
  refine Ew.iadd' hx dL_law_209 (nI_add (5 * i) 1) ?_
  refine Ew.sld hx dL_law_210 hX (i := 5 * i + 1) rfl (by omega) ?_
  refine Ew.aload_n hx dL_law_211 rfl ?_
  refine Ew.iload_n hx dL_law_212 rfl ?_
  refine Ew.iconst hx dL_law_213 k_iconst_2 ?_
  refine Ew.iadd' hx dL_law_214 (nI_add (5 * i) 2) ?_
  refine Ew.sld hx dL_law_215 hX (i := 5 * i + 2) rfl (by omega) ?_
  refine Ew.callV2 (y' := mX12_setRate) hx dL_law_216 ml_RL_22 cf_X12_setRate cv_X12_setRate (ct_X12_setRate G V1 h1.1 hW h1.2.1 _ _) rfl oc_19 rfl (by decide) (by decide) rfl (Nat.le_of_ble_eq_true rfl) ?_
  rintro v2 V2 hA2; obtain rfl := mact_v hA2
  refine Ew.icmp_eq_t hx (tgt := 1018) dL_law_219 rfl (rfl) ?_
  obtain ⟨s2, n2, z2, h2, hl2⟩ := li_act hL hA1 hA2 (by omega)
  exact kk _ _ _ _ _ _ _ hl2
set_option maxHeartbeats 4000000 in
set_option maxRecDepth 100000 in
theorem cs_addRamp {G : GT} {C : CT} {V : Mm} {b L i : Nat} {xs : Nat → Int32} {s : Sv} {n z : Nat} {h : Nat → Sv} {B : Int} {tx : Tx} {ln : Nat} (hx : Cx G mL_law 12 C) (hX : SX G C b L xs) (hi : 5 * i + 5 ≤ L) (hL : LI V s n z h B tx ln) (hB0 : 0 ≤ B) (hB : B + 2100000 < 2147483648) (kk : ∀ (V2 : Mm) (s2 : Sv) (n2 z2 : Nat) (h2 : Nat → Sv) (tx2 : Tx) (ln2 : Nat), LI V2 s2 n2 z2 h2 (B + 2100000) tx2 ln2 → Ew G C V2 1018 [some (.ref b), some (adr G 0), some (adr G 532), some (.int (nI (5 * i)))] []) : Ew G C V 224 [some (.ref b), some (adr G 0), some (adr G 532), some (.int (nI (5 * i)))] [] := by
  have hC := hL.1
  have hW := hC.2.2.2.2.2.1.1
  refine Ew.aload_n hx dL_law_224 rfl ?_
  refine Ew.aload_n hx dL_law_225 rfl ?_
  refine Ew.iload_n hx dL_law_226 rfl ?_
  refine Ew.iconst hx dL_law_227 k_iconst_1 ?_
  refine Ew.iadd' hx dL_law_228 (nI_add (5 * i) 1) ?_
  refine Ew.sld hx dL_law_229 hX (i := 5 * i + 1) rfl (by omega) ?_
  refine Ew.aload_n hx dL_law_230 rfl ?_
  refine Ew.iload_n hx dL_law_231 rfl ?_
  refine Ew.iconst hx dL_law_232 k_iconst_2 ?_
  refine Ew.iadd' hx dL_law_233 (nI_add (5 * i) 2) ?_
  refine Ew.sld hx dL_law_234 hX (i := 5 * i + 2) rfl (by omega) ?_
  refine Ew.aload_n hx dL_law_235 rfl ?_
  refine Ew.iload_n hx dL_law_236 rfl ?_
  refine Ew.iconst hx dL_law_237 k_iconst_3 ?_
  refine Ew.iadd' hx dL_law_238 (nI_add (5 * i) 3) ?_
  refine Ew.sld hx dL_law_239 hX (i := 5 * i + 3) rfl (by omega) ?_
  refine Ew.callV2 (y' := mX11_addRamp) hx dL_law_240 ml_RL_23 cf_X11_addRamp cv_X11_addRamp (ct_X11_addRamp G V hC hB0 (by omega) _ _ _) rfl oc_0 rfl (by decide) (by decide) rfl (Nat.le_of_ble_eq_true rfl) ?_
  rintro v V1 hA1; obtain rfl := act_v hA1; have h1 := li_1 hL hA1.1
  refine Ew.aload_n hx dL_law_243 rfl ?_
  refine Ew.aload_n hx dL_law_244 rfl ?_
  refine Ew.iload_n hx dL_law_245 rfl ?_
  refine Ew.iconst hx dL_law_246 k_iconst_1 ?_
  refine Ew.iadd' hx dL_law_247 (nI_add (5 * i) 1) ?_
  refine Ew.sld hx dL_law_248 hX (i := 5 * i + 1) rfl (by omega) ?_
  refine Ew.aload_n hx dL_law_249 rfl ?_
  refine Ew.iload_n hx dL_law_250 rfl ?_
  refine Ew.iconst hx dL_law_251 k_iconst_2 ?_
  refine Ew.iadd' hx dL_law_252 (nI_add (5 * i) 2) ?_
  refine Ew.sld hx dL_law_253 hX (i := 5 * i + 2) rfl (by omega) ?_
  refine Ew.aload_n hx dL_law_254 rfl ?_
  refine Ew.iload_n hx dL_law_255 rfl ?_
  refine Ew.iconst hx dL_law_256 k_iconst_3 ?_
  refine Ew.iadd' hx dL_law_257 (nI_add (5 * i) 3) ?_
  refine Ew.sld hx dL_law_258 hX (i := 5 * i + 3) rfl (by omega) ?_
  refine Ew.callV2 (y' := mX12_addRamp) hx dL_law_259 ml_RL_27 cf_X12_addRamp cv_X12_addRamp (ct_X12_addRamp G V1 h1.1 hW h1.2.1 _ _ _) rfl oc_19 rfl (by decide) (by decide) rfl (Nat.le_of_ble_eq_true rfl) ?_
  rintro v2 V2 hA2; obtain rfl := mact_v hA2
  refine Ew.icmp_eq_t hx (tgt := 1018) dL_law_262 rfl (rfl) ?_
  obtain ⟨s2, n2, z2, h2, hl2⟩ := li_act hL hA1 hA2 (by omega)
  exact kk _ _ _ _ _ _ _ hl2
set_option maxHeartbeats 4000000 in
set_option maxRecDepth 100000 in
theorem cs_setFee {G : GT} {C : CT} {V : Mm} {b L i : Nat} {xs : Nat → Int32} {s : Sv} {n z : Nat} {h : Nat → Sv} {B : Int} {tx : Tx} {ln : Nat} (hx : Cx G mL_law 12 C) (hX : SX G C b L xs) (hi : 5 * i + 5 ≤ L) (hL : LI V s n z h B tx ln) (hB0 : 0 ≤ B) (hB : B + 2100000 < 2147483648) (kk : ∀ (V2 : Mm) (s2 : Sv) (n2 z2 : Nat) (h2 : Nat → Sv) (tx2 : Tx) (ln2 : Nat), LI V2 s2 n2 z2 h2 (B + 2100000) tx2 ln2 → Ew G C V2 1018 [some (.ref b), some (adr G 0), some (adr G 532), some (.int (nI (5 * i)))] []) : Ew G C V 267 [some (.ref b), some (adr G 0), some (adr G 532), some (.int (nI (5 * i)))] [] := by
  have hC := hL.1
  have hW := hC.2.2.2.2.2.1.1
  refine Ew.aload_n hx dL_law_267 rfl ?_
  refine Ew.aload_n hx dL_law_268 rfl ?_
  refine Ew.iload_n hx dL_law_269 rfl ?_
  refine Ew.iconst hx dL_law_270 k_iconst_1 ?_
  refine Ew.iadd' hx dL_law_271 (nI_add (5 * i) 1) ?_
  refine Ew.sld hx dL_law_272 hX (i := 5 * i + 1) rfl (by omega) ?_
  refine Ew.aload_n hx dL_law_273 rfl ?_
  refine Ew.iload_n hx dL_law_274 rfl ?_
  refine Ew.iconst hx dL_law_275 k_iconst_2 ?_
  refine Ew.iadd' hx dL_law_276 (nI_add (5 * i) 2) ?_
  refine Ew.sld hx dL_law_277 hX (i := 5 * i + 2) rfl (by omega) ?_
  refine Ew.callV2 (y' := mX11_setFee) hx dL_law_278 ml_RL_28 cf_X11_setFee cv_X11_setFee (ct_X11_setFee G V hC hB0 (by omega) _ _) rfl oc_0 rfl (by decide) (by decide) rfl (Nat.le_of_ble_eq_true rfl) ?_
  rintro v V1 hA1; obtain rfl := act_v hA1; have h1 := li_1 hL hA1.1
  refine Ew.aload_n hx dL_law_281 rfl ?_
  refine Ew.aload_n hx dL_law_282 rfl ?_
  refine Ew.iload_n hx dL_law_283 rfl ?_
  refine Ew.iconst hx dL_law_284 k_iconst_1 ?_
  refine Ew.iadd' hx dL_law_285 (nI_add (5 * i) 1) ?_
  refine Ew.sld hx dL_law_286 hX (i := 5 * i + 1) rfl (by omega) ?_
  refine Ew.aload_n hx dL_law_287 rfl ?_
  refine Ew.iload_n hx dL_law_288 rfl ?_
  refine Ew.iconst hx dL_law_289 k_iconst_2 ?_
  refine Ew.iadd' hx dL_law_290 (nI_add (5 * i) 2) ?_
  refine Ew.sld hx dL_law_291 hX (i := 5 * i + 2) rfl (by omega) ?_
  refine Ew.callV2 (y' := mX12_setFee) hx dL_law_292 ml_RL_31 cf_X12_setFee cv_X12_setFee (ct_X12_setFee G V1 h1.1 hW h1.2.1 _ _) rfl oc_19 rfl (by decide) (by decide) rfl (Nat.le_of_ble_eq_true rfl) ?_
  rintro v2 V2 hA2; obtain rfl := mact_v hA2
  refine Ew.icmp_eq_t hx (tgt := 1018) dL_law_295 rfl (rfl) ?_
  obtain ⟨s2, n2, z2, h2, hl2⟩ := li_act hL hA1 hA2 (by omega)
  exact kk _ _ _ _ _ _ _ hl2
set_option maxHeartbeats 4000000 in
set_option maxRecDepth 100000 in
theorem cs_setFine {G : GT} {C : CT} {V : Mm} {b L i : Nat} {xs : Nat → Int32} {s : Sv} {n z : Nat} {h : Nat → Sv} {B : Int} {tx : Tx} {ln : Nat} (hx : Cx G mL_law 12 C) (hX : SX G C b L xs) (hi : 5 * i + 5 ≤ L) (hL : LI V s n z h B tx ln) (hB0 : 0 ≤ B) (hB : B + 2100000 < 2147483648) (kk : ∀ (V2 : Mm) (s2 : Sv) (n2 z2 : Nat) (h2 : Nat → Sv) (tx2 : Tx) (ln2 : Nat), LI V2 s2 n2 z2 h2 (B + 2100000) tx2 ln2 → Ew G C V2 1018 [some (.ref b), some (adr G 0), some (adr G 532), some (.int (nI (5 * i)))] []) : Ew G C V 300 [some (.ref b), some (adr G 0), some (adr G 532), some (.int (nI (5 * i)))] [] := by
  have hC := hL.1
  have hW := hC.2.2.2.2.2.1.1
  refine Ew.aload_n hx dL_law_300 rfl ?_
  refine Ew.aload_n hx dL_law_301 rfl ?_
  refine Ew.iload_n hx dL_law_302 rfl ?_
  refine Ew.iconst hx dL_law_303 k_iconst_1 ?_
  refine Ew.iadd' hx dL_law_304 (nI_add (5 * i) 1) ?_
  refine Ew.sld hx dL_law_305 hX (i := 5 * i + 1) rfl (by omega) ?_
  refine Ew.aload_n hx dL_law_306 rfl ?_
  refine Ew.iload_n hx dL_law_307 rfl ?_
  refine Ew.iconst hx dL_law_308 k_iconst_2 ?_
  refine Ew.iadd' hx dL_law_309 (nI_add (5 * i) 2) ?_
  refine Ew.sld hx dL_law_310 hX (i := 5 * i + 2) rfl (by omega) ?_
  refine Ew.callV2 (y' := mX11_setFine) hx dL_law_311 ml_RL_32 cf_X11_setFine cv_X11_setFine (ct_X11_setFine G V hC hB0 (by omega) _ _) rfl oc_0 rfl (by decide) (by decide) rfl (Nat.le_of_ble_eq_true rfl) ?_
  rintro v V1 hA1; obtain rfl := act_v hA1; have h1 := li_1 hL hA1.1
  refine Ew.aload_n hx dL_law_314 rfl ?_
  refine Ew.aload_n hx dL_law_315 rfl ?_
  refine Ew.iload_n hx dL_law_316 rfl ?_
  refine Ew.iconst hx dL_law_317 k_iconst_1 ?_
  refine Ew.iadd' hx dL_law_318 (nI_add (5 * i) 1) ?_
  refine Ew.sld hx dL_law_319 hX (i := 5 * i + 1) rfl (by omega) ?_
  refine Ew.aload_n hx dL_law_320 rfl ?_
  refine Ew.iload_n hx dL_law_321 rfl ?_
  refine Ew.iconst hx dL_law_322 k_iconst_2 ?_
  refine Ew.iadd' hx dL_law_323 (nI_add (5 * i) 2) ?_
  refine Ew.sld hx dL_law_324 hX (i := 5 * i + 2) rfl (by omega) ?_
  refine Ew.callV2 (y' := mX12_setFine) hx dL_law_325 ml_RL_35 cf_X12_setFine cv_X12_setFine (ct_X12_setFine G V1 h1.1 hW h1.2.1 _ _) rfl oc_19 rfl (by decide) (by decide) rfl (Nat.le_of_ble_eq_true rfl) ?_
  rintro v2 V2 hA2; obtain rfl := mact_v hA2
  refine Ew.icmp_eq_t hx (tgt := 1018) dL_law_328 rfl (rfl) ?_
  obtain ⟨s2, n2, z2, h2, hl2⟩ := li_act hL hA1 hA2 (by omega)
  exact kk _ _ _ _ _ _ _ hl2
set_option maxHeartbeats 4000000 in
set_option maxRecDepth 100000 in
theorem cs_buy {G : GT} {C : CT} {V : Mm} {b L i : Nat} {xs : Nat → Int32} {s : Sv} {n z : Nat} {h : Nat → Sv} {B : Int} {tx : Tx} {ln : Nat} (hx : Cx G mL_law 12 C) (hX : SX G C b L xs) (hi : 5 * i + 5 ≤ L) (hL : LI V s n z h B tx ln) (hB0 : 0 ≤ B) (hB : B + 2100000 < 2147483648) (kk : ∀ (V2 : Mm) (s2 : Sv) (n2 z2 : Nat) (h2 : Nat → Sv) (tx2 : Tx) (ln2 : Nat), LI V2 s2 n2 z2 h2 (B + 2100000) tx2 ln2 → Ew G C V2 1018 [some (.ref b), some (adr G 0), some (adr G 532), some (.int (nI (5 * i)))] []) : Ew G C V 333 [some (.ref b), some (adr G 0), some (adr G 532), some (.int (nI (5 * i)))] [] := by
  have hC := hL.1
  have hW := hC.2.2.2.2.2.1.1
  refine Ew.aload_n hx dL_law_333 rfl ?_
  refine Ew.aload_n hx dL_law_334 rfl ?_
  refine Ew.iload_n hx dL_law_335 rfl ?_
  refine Ew.iconst hx dL_law_336 k_iconst_1 ?_
  refine Ew.iadd' hx dL_law_337 (nI_add (5 * i) 1) ?_
  refine Ew.sld hx dL_law_338 hX (i := 5 * i + 1) rfl (by omega) ?_
  refine Ew.aload_n hx dL_law_339 rfl ?_
  refine Ew.iload_n hx dL_law_340 rfl ?_
  refine Ew.iconst hx dL_law_341 k_iconst_2 ?_
  refine Ew.iadd' hx dL_law_342 (nI_add (5 * i) 2) ?_
  refine Ew.sld hx dL_law_343 hX (i := 5 * i + 2) rfl (by omega) ?_
  refine Ew.aload_n hx dL_law_344 rfl ?_
  refine Ew.iload_n hx dL_law_345 rfl ?_
  refine Ew.iconst hx dL_law_346 k_iconst_3 ?_
  refine Ew.iadd' hx dL_law_347 (nI_add (5 * i) 3) ?_
  refine Ew.sld hx dL_law_348 hX (i := 5 * i + 3) rfl (by omega) ?_
  refine Ew.aload_n hx dL_law_349 rfl ?_
  refine Ew.iload_n hx dL_law_350 rfl ?_
  refine Ew.iconst hx dL_law_351 k_iconst_4 ?_
  refine Ew.iadd' hx dL_law_352 (nI_add (5 * i) 4) ?_
  refine Ew.sld hx dL_law_353 hX (i := 5 * i + 4) rfl (by omega) ?_
  refine Ew.callV2 (y' := mX11_buy) hx dL_law_354 ml_RL_36 cf_X11_buy cv_X11_buy (ct_X11_buy G V hC hB0 (by omega) _ _ _ _) rfl oc_0 rfl (by decide) (by decide) rfl (Nat.le_of_ble_eq_true rfl) ?_
  rintro v V1 hA1; obtain rfl := act_v hA1; have h1 := li_1 hL hA1.1
  refine Ew.aload_n hx dL_law_357 rfl ?_
  refine Ew.aload_n hx dL_law_358 rfl ?_
  refine Ew.iload_n hx dL_law_359 rfl ?_
  refine Ew.iconst hx dL_law_360 k_iconst_1 ?_
  refine Ew.iadd' hx dL_law_361 (nI_add (5 * i) 1) ?_
  refine Ew.sld hx dL_law_362 hX (i := 5 * i + 1) rfl (by omega) ?_
  refine Ew.aload_n hx dL_law_363 rfl ?_
  refine Ew.iload_n hx dL_law_364 rfl ?_
  refine Ew.iconst hx dL_law_365 k_iconst_2 ?_
  refine Ew.iadd' hx dL_law_366 (nI_add (5 * i) 2) ?_
  refine Ew.sld hx dL_law_367 hX (i := 5 * i + 2) rfl (by omega) ?_
  refine Ew.aload_n hx dL_law_368 rfl ?_
  refine Ew.iload_n hx dL_law_369 rfl ?_
  refine Ew.iconst hx dL_law_370 k_iconst_3 ?_
  refine Ew.iadd' hx dL_law_371 (nI_add (5 * i) 3) ?_
  refine Ew.sld hx dL_law_372 hX (i := 5 * i + 3) rfl (by omega) ?_
  refine Ew.aload_n hx dL_law_373 rfl ?_
  refine Ew.iload_n hx dL_law_374 rfl ?_
  refine Ew.iconst hx dL_law_375 k_iconst_4 ?_
  refine Ew.iadd' hx dL_law_376 (nI_add (5 * i) 4) ?_
  refine Ew.sld hx dL_law_377 hX (i := 5 * i + 4) rfl (by omega) ?_
  refine Ew.callV2 (y' := mX12_buy) hx dL_law_378 ml_RL_40 cf_X12_buy cv_X12_buy (ct_X12_buy G V1 h1.1 hW h1.2.1 _ _ _ _) rfl oc_19 rfl (by decide) (by decide) rfl (Nat.le_of_ble_eq_true rfl) ?_
  rintro v2 V2 hA2; obtain rfl := mact_v hA2
  refine Ew.icmp_eq_t hx (tgt := 1018) dL_law_381 rfl (rfl) ?_
  obtain ⟨s2, n2, z2, h2, hl2⟩ := li_act hL hA1 hA2 (by omega)
  exact kk _ _ _ _ _ _ _ hl2
set_option maxHeartbeats 4000000 in
set_option maxRecDepth 100000 in
theorem cs_move {G : GT} {C : CT} {V : Mm} {b L i : Nat} {xs : Nat → Int32} {s : Sv} {n z : Nat} {h : Nat → Sv} {B : Int} {tx : Tx} {ln : Nat} (hx : Cx G mL_law 12 C) (hX : SX G C b L xs) (hi : 5 * i + 5 ≤ L) (hL : LI V s n z h B tx ln) (hB0 : 0 ≤ B) (hB : B + 2100000 < 2147483648) (kk : ∀ (V2 : Mm) (s2 : Sv) (n2 z2 : Nat) (h2 : Nat → Sv) (tx2 : Tx) (ln2 : Nat), LI V2 s2 n2 z2 h2 (B + 2100000) tx2 ln2 → Ew G C V2 1018 [some (.ref b), some (adr G 0), some (adr G 532), some (.int (nI (5 * i)))] []) : Ew G C V 386 [some (.ref b), some (adr G 0), some (adr G 532), some (.int (nI (5 * i)))] [] := by
  have hC := hL.1
  have hW := hC.2.2.2.2.2.1.1
  refine Ew.aload_n hx dL_law_386 rfl ?_
  refine Ew.aload_n hx dL_law_387 rfl ?_
  refine Ew.iload_n hx dL_law_388 rfl ?_
  refine Ew.iconst hx dL_law_389 k_iconst_1 ?_
  refine Ew.iadd' hx dL_law_390 (nI_add (5 * i) 1) ?_
  refine Ew.sld hx dL_law_391 hX (i := 5 * i + 1) rfl (by omega) ?_
  refine Ew.aload_n hx dL_law_392 rfl ?_
  refine Ew.iload_n hx dL_law_393 rfl ?_
  refine Ew.iconst hx dL_law_394 k_iconst_2 ?_
  refine Ew.iadd' hx dL_law_395 (nI_add (5 * i) 2) ?_
  refine Ew.sld hx dL_law_396 hX (i := 5 * i + 2) rfl (by omega) ?_
  refine Ew.callV2 (y' := mX11_move) hx dL_law_397 ml_RL_41 cf_X11_move cv_X11_move (ct_X11_move G V hC hB0 (by omega) _ _) rfl oc_0 rfl (by decide) (by decide) rfl (Nat.le_of_ble_eq_true rfl) ?_
  rintro v V1 hA1; obtain rfl := act_v hA1; have h1 := li_1 hL hA1.1
  refine Ew.aload_n hx dL_law_400 rfl ?_
  refine Ew.aload_n hx dL_law_401 rfl ?_
  refine Ew.iload_n hx dL_law_402 rfl ?_
  refine Ew.iconst hx dL_law_403 k_iconst_1 ?_
  refine Ew.iadd' hx dL_law_404 (nI_add (5 * i) 1) ?_
  refine Ew.sld hx dL_law_405 hX (i := 5 * i + 1) rfl (by omega) ?_
  refine Ew.aload_n hx dL_law_406 rfl ?_
  refine Ew.iload_n hx dL_law_407 rfl ?_
  refine Ew.iconst hx dL_law_408 k_iconst_2 ?_
  refine Ew.iadd' hx dL_law_409 (nI_add (5 * i) 2) ?_
  refine Ew.sld hx dL_law_410 hX (i := 5 * i + 2) rfl (by omega) ?_
  refine Ew.callV2 (y' := mX12_move) hx dL_law_411 ml_RL_44 cf_X12_move cv_X12_move (ct_X12_move G V1 h1.1 hW h1.2.1 _ _) rfl oc_19 rfl (by decide) (by decide) rfl (Nat.le_of_ble_eq_true rfl) ?_
  rintro v2 V2 hA2; obtain rfl := mact_v hA2
  refine Ew.icmp_eq_t hx (tgt := 1018) dL_law_414 rfl (rfl) ?_
  obtain ⟨s2, n2, z2, h2, hl2⟩ := li_act hL hA1 hA2 (by omega)
  exact kk _ _ _ _ _ _ _ hl2
set_option maxHeartbeats 4000000 in
set_option maxRecDepth 100000 in
theorem cs_cancel {G : GT} {C : CT} {V : Mm} {b L i : Nat} {xs : Nat → Int32} {s : Sv} {n z : Nat} {h : Nat → Sv} {B : Int} {tx : Tx} {ln : Nat} (hx : Cx G mL_law 12 C) (hX : SX G C b L xs) (hi : 5 * i + 5 ≤ L) (hL : LI V s n z h B tx ln) (hB0 : 0 ≤ B) (hB : B + 2100000 < 2147483648) (kk : ∀ (V2 : Mm) (s2 : Sv) (n2 z2 : Nat) (h2 : Nat → Sv) (tx2 : Tx) (ln2 : Nat), LI V2 s2 n2 z2 h2 (B + 2100000) tx2 ln2 → Ew G C V2 1018 [some (.ref b), some (adr G 0), some (adr G 532), some (.int (nI (5 * i)))] []) : Ew G C V 419 [some (.ref b), some (adr G 0), some (adr G 532), some (.int (nI (5 * i)))] [] := by
  have hC := hL.1
  have hW := hC.2.2.2.2.2.1.1
  refine Ew.aload_n hx dL_law_419 rfl ?_
  refine Ew.aload_n hx dL_law_420 rfl ?_
  refine Ew.iload_n hx dL_law_421 rfl ?_
  refine Ew.iconst hx dL_law_422 k_iconst_1 ?_
  refine Ew.iadd' hx dL_law_423 (nI_add (5 * i) 1) ?_
  refine Ew.sld hx dL_law_424 hX (i := 5 * i + 1) rfl (by omega) ?_
  refine Ew.callV2 (y' := mX11_cancel) hx dL_law_425 ml_RL_45 cf_X11_cancel cv_X11_cancel (ct_X11_cancel G V hC hB0 (by omega) _) rfl oc_0 rfl (by decide) (by decide) rfl (Nat.le_of_ble_eq_true rfl) ?_
  rintro v V1 hA1; obtain rfl := act_v hA1; have h1 := li_1 hL hA1.1
  refine Ew.aload_n hx dL_law_428 rfl ?_
  refine Ew.aload_n hx dL_law_429 rfl ?_
  refine Ew.iload_n hx dL_law_430 rfl ?_
  refine Ew.iconst hx dL_law_431 k_iconst_1 ?_
  refine Ew.iadd' hx dL_law_432 (nI_add (5 * i) 1) ?_
  refine Ew.sld hx dL_law_433 hX (i := 5 * i + 1) rfl (by omega) ?_
  refine Ew.callV2 (y' := mX12_cancel) hx dL_law_434 ml_RL_48 cf_X12_cancel cv_X12_cancel (ct_X12_cancel G V1 h1.1 hW h1.2.1 _) rfl oc_19 rfl (by decide) (by decide) rfl (Nat.le_of_ble_eq_true rfl) ?_
  rintro v2 V2 hA2; obtain rfl := mact_v hA2
  refine Ew.icmp_eq_t hx (tgt := 1018) dL_law_437 rfl (rfl) ?_
  obtain ⟨s2, n2, z2, h2, hl2⟩ := li_act hL hA1 hA2 (by omega)
  exact kk _ _ _ _ _ _ _ hl2
set_option maxHeartbeats 4000000 in
set_option maxRecDepth 100000 in
theorem cs_refund {G : GT} {C : CT} {V : Mm} {b L i : Nat} {xs : Nat → Int32} {s : Sv} {n z : Nat} {h : Nat → Sv} {B : Int} {tx : Tx} {ln : Nat} (hx : Cx G mL_law 12 C) (hX : SX G C b L xs) (hi : 5 * i + 5 ≤ L) (hL : LI V s n z h B tx ln) (hB0 : 0 ≤ B) (hB : B + 2100000 < 2147483648) (kk : ∀ (V2 : Mm) (s2 : Sv) (n2 z2 : Nat) (h2 : Nat → Sv) (tx2 : Tx) (ln2 : Nat), LI V2 s2 n2 z2 h2 (B + 2100000) tx2 ln2 → Ew G C V2 1018 [some (.ref b), some (adr G 0), some (adr G 532), some (.int (nI (5 * i)))] []) : Ew G C V 442 [some (.ref b), some (adr G 0), some (adr G 532), some (.int (nI (5 * i)))] [] := by
  have hC := hL.1
  have hW := hC.2.2.2.2.2.1.1
  refine Ew.aload_n hx dL_law_442 rfl ?_
  refine Ew.aload_n hx dL_law_443 rfl ?_
  refine Ew.iload_n hx dL_law_444 rfl ?_
  refine Ew.iconst hx dL_law_445 k_iconst_1 ?_
  refine Ew.iadd' hx dL_law_446 (nI_add (5 * i) 1) ?_
  refine Ew.sld hx dL_law_447 hX (i := 5 * i + 1) rfl (by omega) ?_
  refine Ew.callV2 (y' := mX11_refund) hx dL_law_448 ml_RL_49 cf_X11_refund cv_X11_refund (ct_X11_refund G V hC hB0 (by omega) _) rfl oc_0 rfl (by decide) (by decide) rfl (Nat.le_of_ble_eq_true rfl) ?_
  rintro v V1 hA1; obtain rfl := act_v hA1; have h1 := li_1 hL hA1.1
  refine Ew.aload_n hx dL_law_451 rfl ?_
  refine Ew.aload_n hx dL_law_452 rfl ?_
  refine Ew.iload_n hx dL_law_453 rfl ?_
  refine Ew.iconst hx dL_law_454 k_iconst_1 ?_
  refine Ew.iadd' hx dL_law_455 (nI_add (5 * i) 1) ?_
  refine Ew.sld hx dL_law_456 hX (i := 5 * i + 1) rfl (by omega) ?_
  refine Ew.callV2 (y' := mX12_refund) hx dL_law_457 ml_RL_52 cf_X12_refund cv_X12_refund (ct_X12_refund G V1 h1.1 hW h1.2.1 _) rfl oc_19 rfl (by decide) (by decide) rfl (Nat.le_of_ble_eq_true rfl) ?_
  rintro v2 V2 hA2; obtain rfl := mact_v hA2
  refine Ew.icmp_eq_t hx (tgt := 1018) dL_law_460 rfl (rfl) ?_
  obtain ⟨s2, n2, z2, h2, hl2⟩ := li_act hL hA1 hA2 (by omega)
  exact kk _ _ _ _ _ _ _ hl2
set_option maxHeartbeats 4000000 in
set_option maxRecDepth 100000 in
theorem cs_pass {G : GT} {C : CT} {V : Mm} {b L i : Nat} {xs : Nat → Int32} {s : Sv} {n z : Nat} {h : Nat → Sv} {B : Int} {tx : Tx} {ln : Nat} (hx : Cx G mL_law 12 C) (hX : SX G C b L xs) (hi : 5 * i + 5 ≤ L) (hL : LI V s n z h B tx ln) (hB0 : 0 ≤ B) (hB : B + 2100000 < 2147483648) (kk : ∀ (V2 : Mm) (s2 : Sv) (n2 z2 : Nat) (h2 : Nat → Sv) (tx2 : Tx) (ln2 : Nat), LI V2 s2 n2 z2 h2 (B + 2100000) tx2 ln2 → Ew G C V2 1018 [some (.ref b), some (adr G 0), some (adr G 532), some (.int (nI (5 * i)))] []) : Ew G C V 465 [some (.ref b), some (adr G 0), some (adr G 532), some (.int (nI (5 * i)))] [] := by
  have hC := hL.1
  have hW := hC.2.2.2.2.2.1.1
  refine Ew.aload_n hx dL_law_465 rfl ?_
  refine Ew.aload_n hx dL_law_466 rfl ?_
  refine Ew.iload_n hx dL_law_467 rfl ?_
  refine Ew.iconst hx dL_law_468 k_iconst_1 ?_
  refine Ew.iadd' hx dL_law_469 (nI_add (5 * i) 1) ?_
  refine Ew.sld hx dL_law_470 hX (i := 5 * i + 1) rfl (by omega) ?_
  refine Ew.callV2 (y' := mX11_pass) hx dL_law_471 ml_RL_53 cf_X11_pass cv_X11_pass (ct_X11_pass G V hC hB0 (by omega) _) rfl oc_0 rfl (by decide) (by decide) rfl (Nat.le_of_ble_eq_true rfl) ?_
  rintro v V1 hA1; obtain rfl := act_v hA1; have h1 := li_1 hL hA1.1
  refine Ew.aload_n hx dL_law_474 rfl ?_
  refine Ew.aload_n hx dL_law_475 rfl ?_
  refine Ew.iload_n hx dL_law_476 rfl ?_
  refine Ew.iconst hx dL_law_477 k_iconst_1 ?_
  refine Ew.iadd' hx dL_law_478 (nI_add (5 * i) 1) ?_
  refine Ew.sld hx dL_law_479 hX (i := 5 * i + 1) rfl (by omega) ?_
  refine Ew.callV2 (y' := mX12_pass) hx dL_law_480 ml_RL_56 cf_X12_pass cv_X12_pass (ct_X12_pass G V1 h1.1 hW h1.2.1 _) rfl oc_19 rfl (by decide) (by decide) rfl (Nat.le_of_ble_eq_true rfl) ?_
  rintro v2 V2 hA2; obtain rfl := mact_v hA2
  refine Ew.icmp_eq_t hx (tgt := 1018) dL_law_483 rfl (rfl) ?_
  obtain ⟨s2, n2, z2, h2, hl2⟩ := li_act hL hA1 hA2 (by omega)
  exact kk _ _ _ _ _ _ _ hl2
set_option maxHeartbeats 4000000 in
set_option maxRecDepth 100000 in
theorem cs_launch {G : GT} {C : CT} {V : Mm} {b L i : Nat} {xs : Nat → Int32} {s : Sv} {n z : Nat} {h : Nat → Sv} {B : Int} {tx : Tx} {ln : Nat} (hx : Cx G mL_law 12 C) (hX : SX G C b L xs) (hi : 5 * i + 5 ≤ L) (hL : LI V s n z h B tx ln) (hB0 : 0 ≤ B) (hB : B + 2100000 < 2147483648) (kk : ∀ (V2 : Mm) (s2 : Sv) (n2 z2 : Nat) (h2 : Nat → Sv) (tx2 : Tx) (ln2 : Nat), LI V2 s2 n2 z2 h2 (B + 2100000) tx2 ln2 → Ew G C V2 1018 [some (.ref b), some (adr G 0), some (adr G 532), some (.int (nI (5 * i)))] []) : Ew G C V 488 [some (.ref b), some (adr G 0), some (adr G 532), some (.int (nI (5 * i)))] [] := by
  have hC := hL.1
  have hW := hC.2.2.2.2.2.1.1
  refine Ew.aload_n hx dL_law_488 rfl ?_
  refine Ew.aload_n hx dL_law_489 rfl ?_
  refine Ew.iload_n hx dL_law_490 rfl ?_
  refine Ew.iconst hx dL_law_491 k_iconst_1 ?_
  refine Ew.iadd' hx dL_law_492 (nI_add (5 * i) 1) ?_
  refine Ew.sld hx dL_law_493 hX (i := 5 * i + 1) rfl (by omega) ?_
  refine Ew.aload_n hx dL_law_494 rfl ?_
  refine Ew.iload_n hx dL_law_495 rfl ?_
  refine Ew.iconst hx dL_law_496 k_iconst_2 ?_
  refine Ew.iadd' hx dL_law_497 (nI_add (5 * i) 2) ?_
  refine Ew.sld hx dL_law_498 hX (i := 5 * i + 2) rfl (by omega) ?_
  refine Ew.aload_n hx dL_law_499 rfl ?_
  refine Ew.iload_n hx dL_law_500 rfl ?_
  refine Ew.iconst hx dL_law_501 k_iconst_3 ?_
  refine Ew.iadd' hx dL_law_502 (nI_add (5 * i) 3) ?_
  refine Ew.sld hx dL_law_503 hX (i := 5 * i + 3) rfl (by omega) ?_
  refine Ew.callV2 (y' := mX11_launch) hx dL_law_504 ml_RL_57 cf_X11_launch cv_X11_launch (ct_X11_launch G V hC hB0 (by omega) _ _ _) rfl oc_0 rfl (by decide) (by decide) rfl (Nat.le_of_ble_eq_true rfl) ?_
  rintro v V1 hA1; obtain rfl := act_v hA1; have h1 := li_1 hL hA1.1
  refine Ew.aload_n hx dL_law_507 rfl ?_
  refine Ew.aload_n hx dL_law_508 rfl ?_
  refine Ew.iload_n hx dL_law_509 rfl ?_
  refine Ew.iconst hx dL_law_510 k_iconst_1 ?_
  refine Ew.iadd' hx dL_law_511 (nI_add (5 * i) 1) ?_
  refine Ew.sld hx dL_law_512 hX (i := 5 * i + 1) rfl (by omega) ?_
  refine Ew.aload_n hx dL_law_513 rfl ?_
  refine Ew.iload_n hx dL_law_514 rfl ?_
  refine Ew.iconst hx dL_law_515 k_iconst_2 ?_
  refine Ew.iadd' hx dL_law_516 (nI_add (5 * i) 2) ?_
  refine Ew.sld hx dL_law_517 hX (i := 5 * i + 2) rfl (by omega) ?_
  refine Ew.aload_n hx dL_law_518 rfl ?_
  refine Ew.iload_n hx dL_law_519 rfl ?_
  refine Ew.iconst hx dL_law_520 k_iconst_3 ?_
  refine Ew.iadd' hx dL_law_521 (nI_add (5 * i) 3) ?_
  refine Ew.sld hx dL_law_522 hX (i := 5 * i + 3) rfl (by omega) ?_
  refine Ew.callV2 (y' := mX12_launch) hx dL_law_523 ml_RL_60 cf_X12_launch cv_X12_launch (ct_X12_launch G V1 h1.1 hW h1.2.1 _ _ _) rfl oc_19 rfl (by decide) (by decide) rfl (Nat.le_of_ble_eq_true rfl) ?_
  rintro v2 V2 hA2; obtain rfl := mact_v hA2
  refine Ew.icmp_eq_t hx (tgt := 1018) dL_law_526 rfl (rfl) ?_
  obtain ⟨s2, n2, z2, h2, hl2⟩ := li_act hL hA1 hA2 (by omega)
  exact kk _ _ _ _ _ _ _ hl2
set_option maxHeartbeats 4000000 in
set_option maxRecDepth 100000 in
theorem cs_take {G : GT} {C : CT} {V : Mm} {b L i : Nat} {xs : Nat → Int32} {s : Sv} {n z : Nat} {h : Nat → Sv} {B : Int} {tx : Tx} {ln : Nat} (hx : Cx G mL_law 12 C) (hX : SX G C b L xs) (hi : 5 * i + 5 ≤ L) (hL : LI V s n z h B tx ln) (hB0 : 0 ≤ B) (hB : B + 2100000 < 2147483648) (kk : ∀ (V2 : Mm) (s2 : Sv) (n2 z2 : Nat) (h2 : Nat → Sv) (tx2 : Tx) (ln2 : Nat), LI V2 s2 n2 z2 h2 (B + 2100000) tx2 ln2 → Ew G C V2 1018 [some (.ref b), some (adr G 0), some (adr G 532), some (.int (nI (5 * i)))] []) : Ew G C V 531 [some (.ref b), some (adr G 0), some (adr G 532), some (.int (nI (5 * i)))] [] := by
  have hC := hL.1
  have hW := hC.2.2.2.2.2.1.1
  refine Ew.aload_n hx dL_law_531 rfl ?_
  refine Ew.aload_n hx dL_law_532 rfl ?_
  refine Ew.iload_n hx dL_law_533 rfl ?_
  refine Ew.iconst hx dL_law_534 k_iconst_1 ?_
  refine Ew.iadd' hx dL_law_535 (nI_add (5 * i) 1) ?_
  refine Ew.sld hx dL_law_536 hX (i := 5 * i + 1) rfl (by omega) ?_
  refine Ew.callV2 (y' := mX11_take) hx dL_law_537 ml_RL_61 cf_X11_take cv_X11_take (ct_X11_take G V hC hB0 (by omega) _) rfl oc_0 rfl (by decide) (by decide) rfl (Nat.le_of_ble_eq_true rfl) ?_
  rintro v V1 hA1; obtain rfl := act_v hA1; have h1 := li_1 hL hA1.1
  refine Ew.aload_n hx dL_law_540 rfl ?_
  refine Ew.aload_n hx dL_law_541 rfl ?_
  refine Ew.iload_n hx dL_law_542 rfl ?_
  refine Ew.iconst hx dL_law_543 k_iconst_1 ?_
  refine Ew.iadd' hx dL_law_544 (nI_add (5 * i) 1) ?_
  refine Ew.sld hx dL_law_545 hX (i := 5 * i + 1) rfl (by omega) ?_
  refine Ew.callV2 (y' := mX12_take) hx dL_law_546 ml_RL_64 cf_X12_take cv_X12_take (ct_X12_take G V1 h1.1 h1.2.1 _) rfl oc_19 rfl (by decide) (by decide) rfl (Nat.le_of_ble_eq_true rfl) ?_
  rintro v2 V2 hA2; obtain rfl := mact_v hA2
  refine Ew.icmp_eq_t hx (tgt := 1018) dL_law_549 rfl (rfl) ?_
  obtain ⟨s2, n2, z2, h2, hl2⟩ := li_act hL hA1 hA2 (by omega)
  exact kk _ _ _ _ _ _ _ hl2
set_option maxHeartbeats 4000000 in
set_option maxRecDepth 100000 in
theorem cs_restore {G : GT} {C : CT} {V : Mm} {b L i : Nat} {xs : Nat → Int32} {s : Sv} {n z : Nat} {h : Nat → Sv} {B : Int} {tx : Tx} {ln : Nat} (hx : Cx G mL_law 12 C) (hX : SX G C b L xs) (hi : 5 * i + 5 ≤ L) (hL : LI V s n z h B tx ln) (hB0 : 0 ≤ B) (hB : B + 2100000 < 2147483648) (kk : ∀ (V2 : Mm) (s2 : Sv) (n2 z2 : Nat) (h2 : Nat → Sv) (tx2 : Tx) (ln2 : Nat), LI V2 s2 n2 z2 h2 (B + 2100000) tx2 ln2 → Ew G C V2 1018 [some (.ref b), some (adr G 0), some (adr G 532), some (.int (nI (5 * i)))] []) : Ew G C V 554 [some (.ref b), some (adr G 0), some (adr G 532), some (.int (nI (5 * i)))] [] := by
  have hC := hL.1
  have hW := hC.2.2.2.2.2.1.1
  refine Ew.aload_n hx dL_law_554 rfl ?_
  refine Ew.aload_n hx dL_law_555 rfl ?_
  refine Ew.iload_n hx dL_law_556 rfl ?_
  refine Ew.iconst hx dL_law_557 k_iconst_1 ?_
  refine Ew.iadd' hx dL_law_558 (nI_add (5 * i) 1) ?_
  refine Ew.sld hx dL_law_559 hX (i := 5 * i + 1) rfl (by omega) ?_
  refine Ew.callV2 (y' := mX11_restore) hx dL_law_560 ml_RL_65 cf_X11_restore cv_X11_restore (ct_X11_restore G V hC hB0 (by omega) _) rfl oc_0 rfl (by decide) (by decide) rfl (Nat.le_of_ble_eq_true rfl) ?_
  rintro v V1 hA1; obtain rfl := act_v hA1; have h1 := li_1 hL hA1.1
  refine Ew.aload_n hx dL_law_563 rfl ?_
  refine Ew.aload_n hx dL_law_564 rfl ?_
  refine Ew.iload_n hx dL_law_565 rfl ?_
  refine Ew.iconst hx dL_law_566 k_iconst_1 ?_
  refine Ew.iadd' hx dL_law_567 (nI_add (5 * i) 1) ?_
  refine Ew.sld hx dL_law_568 hX (i := 5 * i + 1) rfl (by omega) ?_
  refine Ew.callV2 (y' := mX12_restore) hx dL_law_569 ml_RL_68 cf_X12_restore cv_X12_restore (ct_X12_restore G V1 h1.1 h1.2.1 _) rfl oc_19 rfl (by decide) (by decide) rfl (Nat.le_of_ble_eq_true rfl) ?_
  rintro v2 V2 hA2; obtain rfl := mact_v hA2
  refine Ew.icmp_eq_t hx (tgt := 1018) dL_law_572 rfl (rfl) ?_
  obtain ⟨s2, n2, z2, h2, hl2⟩ := li_act hL hA1 hA2 (by omega)
  exact kk _ _ _ _ _ _ _ hl2
set_option maxHeartbeats 4000000 in
set_option maxRecDepth 100000 in
theorem cs_undo {G : GT} {C : CT} {V : Mm} {b L i : Nat} {xs : Nat → Int32} {s : Sv} {n z : Nat} {h : Nat → Sv} {B : Int} {tx : Tx} {ln : Nat} (hx : Cx G mL_law 12 C) (hX : SX G C b L xs) (hi : 5 * i + 5 ≤ L) (hL : LI V s n z h B tx ln) (hB0 : 0 ≤ B) (hB : B + 2100000 < 2147483648) (kk : ∀ (V2 : Mm) (s2 : Sv) (n2 z2 : Nat) (h2 : Nat → Sv) (tx2 : Tx) (ln2 : Nat), LI V2 s2 n2 z2 h2 (B + 2100000) tx2 ln2 → Ew G C V2 1018 [some (.ref b), some (adr G 0), some (adr G 532), some (.int (nI (5 * i)))] []) : Ew G C V 577 [some (.ref b), some (adr G 0), some (adr G 532), some (.int (nI (5 * i)))] [] := by
  have hC := hL.1
  have hW := hC.2.2.2.2.2.1.1
  refine Ew.aload_n hx dL_law_577 rfl ?_
  refine Ew.callV2 (y' := mX11_undo) hx dL_law_578 ml_RL_69 cf_X11_undo cv_X11_undo (ct_X11_undo G V hC) rfl oc_0 rfl (by decide) (by decide) rfl (Nat.le_of_ble_eq_true rfl) ?_
  rintro v V1 hA1; obtain rfl := un_v hA1; have h1 := li_1 hL hA1.1
  refine Ew.aload_n hx dL_law_581 rfl ?_
  refine Ew.callV2 (y' := mX12_undo) hx dL_law_582 ml_RL_73 cf_X12_undo cv_X12_undo (ct_X12_undo G V1 h1.1 h1.2.1) rfl oc_19 rfl (by decide) (by decide) rfl (Nat.le_of_ble_eq_true rfl) ?_
  rintro v2 V2 hA2; obtain rfl := unm_v hA2
  refine Ew.icmp_eq_t hx (tgt := 1018) dL_law_585 rfl (rfl) ?_
  obtain ⟨s2, n2, z2, h2, hl2⟩ := li_undo hL hA1 hA2
  exact kk _ _ _ _ _ _ _ hl2
set_option maxHeartbeats 4000000 in
set_option maxRecDepth 100000 in
theorem cs_append {G : GT} {C : CT} {V : Mm} {b L i : Nat} {xs : Nat → Int32} {s : Sv} {n z : Nat} {h : Nat → Sv} {B : Int} {tx : Tx} {ln : Nat} (hx : Cx G mL_law 12 C) (hX : SX G C b L xs) (hi : 5 * i + 5 ≤ L) (hL : LI V s n z h B tx ln) (hB0 : 0 ≤ B) (hB : B + 2100000 < 2147483648) (kk : ∀ (V2 : Mm) (s2 : Sv) (n2 z2 : Nat) (h2 : Nat → Sv) (tx2 : Tx) (ln2 : Nat), LI V2 s2 n2 z2 h2 (B + 2100000) tx2 ln2 → Ew G C V2 1018 [some (.ref b), some (adr G 0), some (adr G 532), some (.int (nI (5 * i)))] []) : Ew G C V 590 [some (.ref b), some (adr G 0), some (adr G 532), some (.int (nI (5 * i)))] [] := by
  have hC := hL.1
  have hW := hC.2.2.2.2.2.1.1
  refine Ew.aload_n hx dL_law_590 rfl ?_
  refine Ew.aload_n hx dL_law_591 rfl ?_
  refine Ew.iload_n hx dL_law_592 rfl ?_
  refine Ew.iconst hx dL_law_593 k_iconst_1 ?_
  refine Ew.iadd' hx dL_law_594 (nI_add (5 * i) 1) ?_
  refine Ew.sld hx dL_law_595 hX (i := 5 * i + 1) rfl (by omega) ?_
  refine Ew.callV2 (y' := mX11_append) hx dL_law_596 ml_RL_74 cf_X11_append cv_X11_append (ct_X11_append G V hL.2.2.2.1 _) rfl oc_0 rfl (by decide) (by decide) rfl (Nat.le_of_ble_eq_true rfl) ?_
  intro v V1 hA0; have hA1 : ApQ V tx ln (xs (5 * i + 1)) v V1 := hA0; obtain rfl := ap_v hA1
  refine Ew.aload_n hx dL_law_599 rfl ?_
  refine Ew.aload_n hx dL_law_600 rfl ?_
  refine Ew.iload_n hx dL_law_601 rfl ?_
  refine Ew.iconst hx dL_law_602 k_iconst_1 ?_
  refine Ew.iadd' hx dL_law_603 (nI_add (5 * i) 1) ?_
  refine Ew.sld hx dL_law_604 hX (i := 5 * i + 1) rfl (by omega) ?_
  refine Ew.callV2 (y' := mX12_append) hx dL_law_605 ml_RL_77 cf_X12_append cv_X12_append (ct_X12_append G V1 (ap_m hL.2.2.2.2.1 hA1) _) rfl oc_19 rfl (by decide) (by decide) rfl (Nat.le_of_ble_eq_true rfl) ?_
  intro v2 V2 hA0b; have hA2 : ApM V1 tx ln (xs (5 * i + 1)) v2 V2 := hA0b; obtain rfl := apm_v hA2
  refine Ew.icmp_eq_t hx (tgt := 1018) dL_law_608 rfl (rfl) ?_
  obtain ⟨tx2, ln2, hl2⟩ := li_app hL hA1 hA2
  exact kk _ _ _ _ _ _ _ hl2
set_option maxHeartbeats 4000000 in
set_option maxRecDepth 100000 in
theorem cs_clearText {G : GT} {C : CT} {V : Mm} {b L i : Nat} {xs : Nat → Int32} {s : Sv} {n z : Nat} {h : Nat → Sv} {B : Int} {tx : Tx} {ln : Nat} (hx : Cx G mL_law 12 C) (hX : SX G C b L xs) (hi : 5 * i + 5 ≤ L) (hL : LI V s n z h B tx ln) (hB0 : 0 ≤ B) (hB : B + 2100000 < 2147483648) (kk : ∀ (V2 : Mm) (s2 : Sv) (n2 z2 : Nat) (h2 : Nat → Sv) (tx2 : Tx) (ln2 : Nat), LI V2 s2 n2 z2 h2 (B + 2100000) tx2 ln2 → Ew G C V2 1018 [some (.ref b), some (adr G 0), some (adr G 532), some (.int (nI (5 * i)))] []) : Ew G C V 613 [some (.ref b), some (adr G 0), some (adr G 532), some (.int (nI (5 * i)))] [] := by
  have hC := hL.1
  have hW := hC.2.2.2.2.2.1.1
  refine Ew.aload_n hx dL_law_613 rfl ?_
  refine Ew.callV2 (y' := mX11_clearText) hx dL_law_614 ml_RL_78 cf_X11_clearText cv_X11_clearText (ct_X11_clearText G V) rfl oc_0 rfl (by decide) (by decide) rfl (Nat.le_of_ble_eq_true rfl) ?_
  rintro _ V9 ⟨rfl, h9⟩; subst V9
  refine Ew.aload_n hx dL_law_617 rfl ?_
  refine Ew.callV2 (y' := mX12_clearText) hx dL_law_618 ml_RL_81 cf_X12_clearText cv_X12_clearText (ct_X12_clearText G _) rfl oc_19 rfl (by decide) (by decide) rfl (Nat.le_of_ble_eq_true rfl) ?_
  rintro _ V9 ⟨rfl, h9⟩; subst V9
  refine Ew.icmp_eq_t hx (tgt := 1018) dL_law_621 rfl (by rw [mup_ne _ _ _ (by decide), hL.2.2.2.1.1, hL.2.2.2.2.1.1]) ?_
  exact kk _ _ _ _ _ _ _ (li_clr hL)
set_option maxHeartbeats 4000000 in
set_option maxRecDepth 100000 in
theorem cs_run {G : GT} {C : CT} {V : Mm} {b L i : Nat} {xs : Nat → Int32} {s : Sv} {n z : Nat} {h : Nat → Sv} {B : Int} {tx : Tx} {ln : Nat} (hx : Cx G mL_law 12 C) (hX : SX G C b L xs) (hi : 5 * i + 5 ≤ L) (hL : LI V s n z h B tx ln) (hB0 : 0 ≤ B) (hB : B + 2100000 < 2147483648) (kk : ∀ (V2 : Mm) (s2 : Sv) (n2 z2 : Nat) (h2 : Nat → Sv) (tx2 : Tx) (ln2 : Nat), LI V2 s2 n2 z2 h2 (B + 2100000) tx2 ln2 → Ew G C V2 1018 [some (.ref b), some (adr G 0), some (adr G 532), some (.int (nI (5 * i)))] []) : Ew G C V 626 [some (.ref b), some (adr G 0), some (adr G 532), some (.int (nI (5 * i)))] [] := by
  have hC := hL.1
  have hW := hC.2.2.2.2.2.1.1
  refine Ew.aload_n hx dL_law_626 rfl ?_
  refine Ew.callV2 (y' := mX11_run) hx dL_law_627 ml_RL_82 cf_X11_run cv_X11_run (ct_X11_run G V hC hL.2.2.2.1 hB0 hB) rfl oc_0 rfl (by decide) (by decide) rfl (Nat.le_of_ble_eq_true rfl) ?_
  rintro v V1 hA1; obtain rfl := hA1.1; have h1 := li_run1 hL hA1
  refine Ew.aload_n hx dL_law_630 rfl ?_
  refine Ew.callV2 (y' := mX12_run) hx dL_law_631 ml_RL_85 cf_X12_run cv_X12_run (ct_X12_run G V1 h1.1 hW h1.2.1 h1.2.2 hB0 hB) rfl oc_19 rfl (by decide) (by decide) rfl (Nat.le_of_ble_eq_true rfl) ?_
  rintro v2 V2 hA2; obtain rfl := hA2.1
  refine Ew.icmp_eq_t hx (tgt := 1018) dL_law_634 rfl (rfl) ?_
  obtain ⟨s2, n2, z2, h2, ln2, hl2⟩ := li_run hL hA1 hA2
  exact kk _ _ _ _ _ _ _ hl2
set_option maxHeartbeats 4000000 in
set_option maxRecDepth 100000 in
theorem cs_failure {G : GT} {C : CT} {V : Mm} {b L i : Nat} {xs : Nat → Int32} {s : Sv} {n z : Nat} {h : Nat → Sv} {B : Int} {tx : Tx} {ln : Nat} (hx : Cx G mL_law 12 C) (hX : SX G C b L xs) (hi : 5 * i + 5 ≤ L) (hL : LI V s n z h B tx ln) (hB0 : 0 ≤ B) (hB : B + 2100000 < 2147483648) (kk : ∀ (V2 : Mm) (s2 : Sv) (n2 z2 : Nat) (h2 : Nat → Sv) (tx2 : Tx) (ln2 : Nat), LI V2 s2 n2 z2 h2 (B + 2100000) tx2 ln2 → Ew G C V2 1018 [some (.ref b), some (adr G 0), some (adr G 532), some (.int (nI (5 * i)))] []) : Ew G C V 639 [some (.ref b), some (adr G 0), some (adr G 532), some (.int (nI (5 * i)))] [] := by
  have hC := hL.1
  have hW := hC.2.2.2.2.2.1.1
  refine Ew.aload_n hx dL_law_639 rfl ?_
  refine Ew.aload_n hx dL_law_640 rfl ?_
  refine Ew.iload_n hx dL_law_641 rfl ?_
  refine Ew.iconst hx dL_law_642 k_iconst_1 ?_
  refine Ew.iadd' hx dL_law_643 (nI_add (5 * i) 1) ?_
  refine Ew.sld hx dL_law_644 hX (i := 5 * i + 1) rfl (by omega) ?_
  refine Ew.callV2 (y' := mX11_failure) hx dL_law_645 ml_RL_86 cf_X11_failure cv_X11_failure (ct_X11_failure G V _) rfl oc_0 rfl (by decide) (by decide) rfl (Nat.le_of_ble_eq_true rfl) ?_
  rintro _ V9 ⟨rfl, h9⟩; subst V9
  refine Ew.aload_n hx dL_law_648 rfl ?_
  refine Ew.aload_n hx dL_law_649 rfl ?_
  refine Ew.iload_n hx dL_law_650 rfl ?_
  refine Ew.iconst hx dL_law_651 k_iconst_1 ?_
  refine Ew.iadd' hx dL_law_652 (nI_add (5 * i) 1) ?_
  refine Ew.sld hx dL_law_653 hX (i := 5 * i + 1) rfl (by omega) ?_
  refine Ew.callV2 (y' := mX12_failure) hx dL_law_654 ml_RL_89 cf_X12_failure cv_X12_failure (ct_X12_failure G V hL.2.2.2.2.2 _) rfl oc_19 rfl (by decide) (by decide) rfl (Nat.le_of_ble_eq_true rfl) ?_
  intro v2 V2 hA0; have hA2 := QR.ri hA0; obtain rfl := hA2.1
  refine Ew.icmp_eq_t hx (tgt := 1018) dL_law_657 rfl (rfl) ?_
  exact kk _ _ _ _ _ _ _ (li_q hL hA2)
set_option maxHeartbeats 4000000 in
set_option maxRecDepth 100000 in
theorem cs_count {G : GT} {C : CT} {V : Mm} {b L i : Nat} {xs : Nat → Int32} {s : Sv} {n z : Nat} {h : Nat → Sv} {B : Int} {tx : Tx} {ln : Nat} (hx : Cx G mL_law 12 C) (hX : SX G C b L xs) (hi : 5 * i + 5 ≤ L) (hL : LI V s n z h B tx ln) (hB0 : 0 ≤ B) (hB : B + 2100000 < 2147483648) (kk : ∀ (V2 : Mm) (s2 : Sv) (n2 z2 : Nat) (h2 : Nat → Sv) (tx2 : Tx) (ln2 : Nat), LI V2 s2 n2 z2 h2 (B + 2100000) tx2 ln2 → Ew G C V2 1018 [some (.ref b), some (adr G 0), some (adr G 532), some (.int (nI (5 * i)))] []) : Ew G C V 662 [some (.ref b), some (adr G 0), some (adr G 532), some (.int (nI (5 * i)))] [] := by
  have hC := hL.1
  have hW := hC.2.2.2.2.2.1.1
  refine Ew.aload_n hx dL_law_662 rfl ?_
  refine Ew.aload_n hx dL_law_663 rfl ?_
  refine Ew.iload_n hx dL_law_664 rfl ?_
  refine Ew.iconst hx dL_law_665 k_iconst_1 ?_
  refine Ew.iadd' hx dL_law_666 (nI_add (5 * i) 1) ?_
  refine Ew.sld hx dL_law_667 hX (i := 5 * i + 1) rfl (by omega) ?_
  refine Ew.callV2 (y' := mX11_count) hx dL_law_668 ml_RL_90 cf_X11_count cv_X11_count (ct_X11_count G V hC _) rfl oc_0 rfl (by decide) (by decide) rfl (Nat.le_of_ble_eq_true rfl) ?_
  rintro _ V9 ⟨rfl, h9⟩; subst V9
  refine Ew.aload_n hx dL_law_671 rfl ?_
  refine Ew.aload_n hx dL_law_672 rfl ?_
  refine Ew.iload_n hx dL_law_673 rfl ?_
  refine Ew.iconst hx dL_law_674 k_iconst_1 ?_
  refine Ew.iadd' hx dL_law_675 (nI_add (5 * i) 1) ?_
  refine Ew.sld hx dL_law_676 hX (i := 5 * i + 1) rfl (by omega) ?_
  refine Ew.callV2 (y' := mX12_count) hx dL_law_677 ml_RL_93 cf_X12_count cv_X12_count (ct_X12_count G V hL.2.1 hW hL.2.2.1 hL.2.2.2.2.1 _) rfl oc_19 rfl (by decide) (by decide) rfl (Nat.le_of_ble_eq_true rfl) ?_
  intro v2 V2 hA0; have hA2 := QR.ri hA0; obtain rfl := hA2.1
  refine Ew.icmp_eq_t hx (tgt := 1018) dL_law_680 rfl (by rw [hL.2.2.2.1.1]) ?_
  exact kk _ _ _ _ _ _ _ (li_q hL hA2)
set_option maxHeartbeats 4000000 in
set_option maxRecDepth 100000 in
theorem cs_ramp {G : GT} {C : CT} {V : Mm} {b L i : Nat} {xs : Nat → Int32} {s : Sv} {n z : Nat} {h : Nat → Sv} {B : Int} {tx : Tx} {ln : Nat} (hx : Cx G mL_law 12 C) (hX : SX G C b L xs) (hi : 5 * i + 5 ≤ L) (hL : LI V s n z h B tx ln) (hB0 : 0 ≤ B) (hB : B + 2100000 < 2147483648) (kk : ∀ (V2 : Mm) (s2 : Sv) (n2 z2 : Nat) (h2 : Nat → Sv) (tx2 : Tx) (ln2 : Nat), LI V2 s2 n2 z2 h2 (B + 2100000) tx2 ln2 → Ew G C V2 1018 [some (.ref b), some (adr G 0), some (adr G 532), some (.int (nI (5 * i)))] []) : Ew G C V 685 [some (.ref b), some (adr G 0), some (adr G 532), some (.int (nI (5 * i)))] [] := by
  have hC := hL.1
  have hW := hC.2.2.2.2.2.1.1
  refine Ew.aload_n hx dL_law_685 rfl ?_
  refine Ew.aload_n hx dL_law_686 rfl ?_
  refine Ew.iload_n hx dL_law_687 rfl ?_
  refine Ew.iconst hx dL_law_688 k_iconst_1 ?_
  refine Ew.iadd' hx dL_law_689 (nI_add (5 * i) 1) ?_
  refine Ew.sld hx dL_law_690 hX (i := 5 * i + 1) rfl (by omega) ?_
  refine Ew.aload_n hx dL_law_691 rfl ?_
  refine Ew.iload_n hx dL_law_692 rfl ?_
  refine Ew.iconst hx dL_law_693 k_iconst_2 ?_
  refine Ew.iadd' hx dL_law_694 (nI_add (5 * i) 2) ?_
  refine Ew.sld hx dL_law_695 hX (i := 5 * i + 2) rfl (by omega) ?_
  refine Ew.callV2 (y' := mX11_ramp) hx dL_law_696 ml_RL_94 cf_X11_ramp cv_X11_ramp (ct_X11_ramp G V hC _ _) rfl oc_0 rfl (by decide) (by decide) rfl (Nat.le_of_ble_eq_true rfl) ?_
  rintro _ V9 ⟨rfl, h9⟩; subst V9
  refine Ew.aload_n hx dL_law_699 rfl ?_
  refine Ew.aload_n hx dL_law_700 rfl ?_
  refine Ew.iload_n hx dL_law_701 rfl ?_
  refine Ew.iconst hx dL_law_702 k_iconst_1 ?_
  refine Ew.iadd' hx dL_law_703 (nI_add (5 * i) 1) ?_
  refine Ew.sld hx dL_law_704 hX (i := 5 * i + 1) rfl (by omega) ?_
  refine Ew.aload_n hx dL_law_705 rfl ?_
  refine Ew.iload_n hx dL_law_706 rfl ?_
  refine Ew.iconst hx dL_law_707 k_iconst_2 ?_
  refine Ew.iadd' hx dL_law_708 (nI_add (5 * i) 2) ?_
  refine Ew.sld hx dL_law_709 hX (i := 5 * i + 2) rfl (by omega) ?_
  refine Ew.callV2 (y' := mX12_ramp) hx dL_law_710 ml_RL_97 cf_X12_ramp cv_X12_ramp (ct_X12_ramp G V hL.2.1 hW _ _) rfl oc_19 rfl (by decide) (by decide) rfl (Nat.le_of_ble_eq_true rfl) ?_
  intro v2 V2 hA0; have hA2 := QR.ri hA0; obtain rfl := hA2.1
  refine Ew.icmp_eq_t hx (tgt := 1018) dL_law_713 rfl (rfl) ?_
  exact kk _ _ _ _ _ _ _ (li_q hL hA2)
set_option maxHeartbeats 4000000 in
set_option maxRecDepth 100000 in
theorem cs_permit {G : GT} {C : CT} {V : Mm} {b L i : Nat} {xs : Nat → Int32} {s : Sv} {n z : Nat} {h : Nat → Sv} {B : Int} {tx : Tx} {ln : Nat} (hx : Cx G mL_law 12 C) (hX : SX G C b L xs) (hi : 5 * i + 5 ≤ L) (hL : LI V s n z h B tx ln) (hB0 : 0 ≤ B) (hB : B + 2100000 < 2147483648) (kk : ∀ (V2 : Mm) (s2 : Sv) (n2 z2 : Nat) (h2 : Nat → Sv) (tx2 : Tx) (ln2 : Nat), LI V2 s2 n2 z2 h2 (B + 2100000) tx2 ln2 → Ew G C V2 1018 [some (.ref b), some (adr G 0), some (adr G 532), some (.int (nI (5 * i)))] []) : Ew G C V 718 [some (.ref b), some (adr G 0), some (adr G 532), some (.int (nI (5 * i)))] [] := by
  have hC := hL.1
  have hW := hC.2.2.2.2.2.1.1
  refine Ew.aload_n hx dL_law_718 rfl ?_
  refine Ew.aload_n hx dL_law_719 rfl ?_
  refine Ew.iload_n hx dL_law_720 rfl ?_
  refine Ew.iconst hx dL_law_721 k_iconst_1 ?_
  refine Ew.iadd' hx dL_law_722 (nI_add (5 * i) 1) ?_
  refine Ew.sld hx dL_law_723 hX (i := 5 * i + 1) rfl (by omega) ?_
  refine Ew.aload_n hx dL_law_724 rfl ?_
  refine Ew.iload_n hx dL_law_725 rfl ?_
  refine Ew.iconst hx dL_law_726 k_iconst_2 ?_
  refine Ew.iadd' hx dL_law_727 (nI_add (5 * i) 2) ?_
  refine Ew.sld hx dL_law_728 hX (i := 5 * i + 2) rfl (by omega) ?_
  refine Ew.callV2 (y' := mX11_permit) hx dL_law_729 ml_RL_98 cf_X11_permit cv_X11_permit (ct_X11_permit G V hC _ _) rfl oc_0 rfl (by decide) (by decide) rfl (Nat.le_of_ble_eq_true rfl) ?_
  rintro _ V9 ⟨rfl, h9⟩; subst V9
  refine Ew.aload_n hx dL_law_732 rfl ?_
  refine Ew.aload_n hx dL_law_733 rfl ?_
  refine Ew.iload_n hx dL_law_734 rfl ?_
  refine Ew.iconst hx dL_law_735 k_iconst_1 ?_
  refine Ew.iadd' hx dL_law_736 (nI_add (5 * i) 1) ?_
  refine Ew.sld hx dL_law_737 hX (i := 5 * i + 1) rfl (by omega) ?_
  refine Ew.aload_n hx dL_law_738 rfl ?_
  refine Ew.iload_n hx dL_law_739 rfl ?_
  refine Ew.iconst hx dL_law_740 k_iconst_2 ?_
  refine Ew.iadd' hx dL_law_741 (nI_add (5 * i) 2) ?_
  refine Ew.sld hx dL_law_742 hX (i := 5 * i + 2) rfl (by omega) ?_
  refine Ew.callV2 (y' := mX12_permit) hx dL_law_743 ml_RL_101 cf_X12_permit cv_X12_permit (ct_X12_permit G V hL.2.1 hW _ _) rfl oc_19 rfl (by decide) (by decide) rfl (Nat.le_of_ble_eq_true rfl) ?_
  intro v2 V2 hA0; have hA2 := QR.ri hA0; obtain rfl := hA2.1
  refine Ew.icmp_eq_t hx (tgt := 1018) dL_law_746 rfl (rfl) ?_
  exact kk _ _ _ _ _ _ _ (li_q hL hA2)
set_option maxHeartbeats 4000000 in
set_option maxRecDepth 100000 in
theorem cs_money {G : GT} {C : CT} {V : Mm} {b L i : Nat} {xs : Nat → Int32} {s : Sv} {n z : Nat} {h : Nat → Sv} {B : Int} {tx : Tx} {ln : Nat} (hx : Cx G mL_law 12 C) (hX : SX G C b L xs) (hi : 5 * i + 5 ≤ L) (hL : LI V s n z h B tx ln) (hB0 : 0 ≤ B) (hB : B + 2100000 < 2147483648) (kk : ∀ (V2 : Mm) (s2 : Sv) (n2 z2 : Nat) (h2 : Nat → Sv) (tx2 : Tx) (ln2 : Nat), LI V2 s2 n2 z2 h2 (B + 2100000) tx2 ln2 → Ew G C V2 1018 [some (.ref b), some (adr G 0), some (adr G 532), some (.int (nI (5 * i)))] []) : Ew G C V 751 [some (.ref b), some (adr G 0), some (adr G 532), some (.int (nI (5 * i)))] [] := by
  have hC := hL.1
  have hW := hC.2.2.2.2.2.1.1
  refine Ew.aload_n hx dL_law_751 rfl ?_
  refine Ew.aload_n hx dL_law_752 rfl ?_
  refine Ew.iload_n hx dL_law_753 rfl ?_
  refine Ew.iconst hx dL_law_754 k_iconst_1 ?_
  refine Ew.iadd' hx dL_law_755 (nI_add (5 * i) 1) ?_
  refine Ew.sld hx dL_law_756 hX (i := 5 * i + 1) rfl (by omega) ?_
  refine Ew.callV2 (y' := mX11_money) hx dL_law_757 ml_RL_102 cf_X11_money cv_X11_money (ct_X11_money G V hC _) rfl oc_0 rfl (by decide) (by decide) rfl (Nat.le_of_ble_eq_true rfl) ?_
  rintro _ V9 ⟨rfl, h9⟩; subst V9
  refine Ew.aload_n hx dL_law_760 rfl ?_
  refine Ew.aload_n hx dL_law_761 rfl ?_
  refine Ew.iload_n hx dL_law_762 rfl ?_
  refine Ew.iconst hx dL_law_763 k_iconst_1 ?_
  refine Ew.iadd' hx dL_law_764 (nI_add (5 * i) 1) ?_
  refine Ew.sld hx dL_law_765 hX (i := 5 * i + 1) rfl (by omega) ?_
  refine Ew.callV2 (y' := mX12_money) hx dL_law_766 ml_RL_105 cf_X12_money cv_X12_money (ct_X12_money G V hL.2.1 hW _) rfl oc_19 rfl (by decide) (by decide) rfl (Nat.le_of_ble_eq_true rfl) ?_
  intro v2 V2 hA0; have hA2 := QR.ri hA0; obtain rfl := hA2.1
  refine Ew.icmp_eq_t hx (tgt := 1018) dL_law_769 rfl (rfl) ?_
  exact kk _ _ _ _ _ _ _ (li_q hL hA2)
set_option maxHeartbeats 4000000 in
set_option maxRecDepth 100000 in
theorem cs_rate {G : GT} {C : CT} {V : Mm} {b L i : Nat} {xs : Nat → Int32} {s : Sv} {n z : Nat} {h : Nat → Sv} {B : Int} {tx : Tx} {ln : Nat} (hx : Cx G mL_law 12 C) (hX : SX G C b L xs) (hi : 5 * i + 5 ≤ L) (hL : LI V s n z h B tx ln) (hB0 : 0 ≤ B) (hB : B + 2100000 < 2147483648) (kk : ∀ (V2 : Mm) (s2 : Sv) (n2 z2 : Nat) (h2 : Nat → Sv) (tx2 : Tx) (ln2 : Nat), LI V2 s2 n2 z2 h2 (B + 2100000) tx2 ln2 → Ew G C V2 1018 [some (.ref b), some (adr G 0), some (adr G 532), some (.int (nI (5 * i)))] []) : Ew G C V 774 [some (.ref b), some (adr G 0), some (adr G 532), some (.int (nI (5 * i)))] [] := by
  have hC := hL.1
  have hW := hC.2.2.2.2.2.1.1
  refine Ew.aload_n hx dL_law_774 rfl ?_
  refine Ew.aload_n hx dL_law_775 rfl ?_
  refine Ew.iload_n hx dL_law_776 rfl ?_
  refine Ew.iconst hx dL_law_777 k_iconst_1 ?_
  refine Ew.iadd' hx dL_law_778 (nI_add (5 * i) 1) ?_
  refine Ew.sld hx dL_law_779 hX (i := 5 * i + 1) rfl (by omega) ?_
  refine Ew.callV2 (y' := mX11_rate) hx dL_law_780 ml_RL_106 cf_X11_rate cv_X11_rate (ct_X11_rate G V hC _) rfl oc_0 rfl (by decide) (by decide) rfl (Nat.le_of_ble_eq_true rfl) ?_
  rintro _ V9 ⟨rfl, h9⟩; subst V9
  refine Ew.aload_n hx dL_law_783 rfl ?_
  refine Ew.aload_n hx dL_law_784 rfl ?_
  refine Ew.iload_n hx dL_law_785 rfl ?_
  refine Ew.iconst hx dL_law_786 k_iconst_1 ?_
  refine Ew.iadd' hx dL_law_787 (nI_add (5 * i) 1) ?_
  refine Ew.sld hx dL_law_788 hX (i := 5 * i + 1) rfl (by omega) ?_
  refine Ew.callV2 (y' := mX12_rate) hx dL_law_789 ml_RL_109 cf_X12_rate cv_X12_rate (ct_X12_rate G V hL.2.1 hW _) rfl oc_19 rfl (by decide) (by decide) rfl (Nat.le_of_ble_eq_true rfl) ?_
  intro v2 V2 hA0; have hA2 := QR.ri hA0; obtain rfl := hA2.1
  refine Ew.icmp_eq_t hx (tgt := 1018) dL_law_792 rfl (rfl) ?_
  exact kk _ _ _ _ _ _ _ (li_q hL hA2)
set_option maxHeartbeats 4000000 in
set_option maxRecDepth 100000 in
theorem cs_forecast {G : GT} {C : CT} {V : Mm} {b L i : Nat} {xs : Nat → Int32} {s : Sv} {n z : Nat} {h : Nat → Sv} {B : Int} {tx : Tx} {ln : Nat} (hx : Cx G mL_law 12 C) (hX : SX G C b L xs) (hi : 5 * i + 5 ≤ L) (hL : LI V s n z h B tx ln) (hB0 : 0 ≤ B) (hB : B + 2100000 < 2147483648) (kk : ∀ (V2 : Mm) (s2 : Sv) (n2 z2 : Nat) (h2 : Nat → Sv) (tx2 : Tx) (ln2 : Nat), LI V2 s2 n2 z2 h2 (B + 2100000) tx2 ln2 → Ew G C V2 1018 [some (.ref b), some (adr G 0), some (adr G 532), some (.int (nI (5 * i)))] []) : Ew G C V 797 [some (.ref b), some (adr G 0), some (adr G 532), some (.int (nI (5 * i)))] [] := by
  have hC := hL.1
  have hW := hC.2.2.2.2.2.1.1
  refine Ew.aload_n hx dL_law_797 rfl ?_
  refine Ew.aload_n hx dL_law_798 rfl ?_
  refine Ew.iload_n hx dL_law_799 rfl ?_
  refine Ew.iconst hx dL_law_800 k_iconst_1 ?_
  refine Ew.iadd' hx dL_law_801 (nI_add (5 * i) 1) ?_
  refine Ew.sld hx dL_law_802 hX (i := 5 * i + 1) rfl (by omega) ?_
  refine Ew.callV2 (y' := mX11_forecast) hx dL_law_803 ml_RL_110 cf_X11_forecast cv_X11_forecast (ct_X11_forecast G V hC _) rfl oc_0 rfl (by decide) (by decide) rfl (Nat.le_of_ble_eq_true rfl) ?_
  rintro _ V9 ⟨rfl, h9⟩; subst V9
  refine Ew.aload_n hx dL_law_806 rfl ?_
  refine Ew.aload_n hx dL_law_807 rfl ?_
  refine Ew.iload_n hx dL_law_808 rfl ?_
  refine Ew.iconst hx dL_law_809 k_iconst_1 ?_
  refine Ew.iadd' hx dL_law_810 (nI_add (5 * i) 1) ?_
  refine Ew.sld hx dL_law_811 hX (i := 5 * i + 1) rfl (by omega) ?_
  refine Ew.callV2 (y' := mX12_forecast) hx dL_law_812 ml_RL_113 cf_X12_forecast cv_X12_forecast (ct_X12_forecast G V hL.2.1 hW _) rfl oc_19 rfl (by decide) (by decide) rfl (Nat.le_of_ble_eq_true rfl) ?_
  rintro v2 V2 hA2; obtain rfl := hA2.1
  refine Ew.icmp_eq_t hx (tgt := 1018) dL_law_815 rfl (rfl) ?_
  exact kk _ _ _ _ _ _ _ (li_q hL hA2)
set_option maxHeartbeats 4000000 in
set_option maxRecDepth 100000 in
theorem cs_closure {G : GT} {C : CT} {V : Mm} {b L i : Nat} {xs : Nat → Int32} {s : Sv} {n z : Nat} {h : Nat → Sv} {B : Int} {tx : Tx} {ln : Nat} (hx : Cx G mL_law 12 C) (hX : SX G C b L xs) (hi : 5 * i + 5 ≤ L) (hL : LI V s n z h B tx ln) (hB0 : 0 ≤ B) (hB : B + 2100000 < 2147483648) (kk : ∀ (V2 : Mm) (s2 : Sv) (n2 z2 : Nat) (h2 : Nat → Sv) (tx2 : Tx) (ln2 : Nat), LI V2 s2 n2 z2 h2 (B + 2100000) tx2 ln2 → Ew G C V2 1018 [some (.ref b), some (adr G 0), some (adr G 532), some (.int (nI (5 * i)))] []) : Ew G C V 820 [some (.ref b), some (adr G 0), some (adr G 532), some (.int (nI (5 * i)))] [] := by
  have hC := hL.1
  have hW := hC.2.2.2.2.2.1.1
  refine Ew.aload_n hx dL_law_820 rfl ?_
  refine Ew.aload_n hx dL_law_821 rfl ?_
  refine Ew.iload_n hx dL_law_822 rfl ?_
  refine Ew.iconst hx dL_law_823 k_iconst_1 ?_
  refine Ew.iadd' hx dL_law_824 (nI_add (5 * i) 1) ?_
  refine Ew.sld hx dL_law_825 hX (i := 5 * i + 1) rfl (by omega) ?_
  refine Ew.aload_n hx dL_law_826 rfl ?_
  refine Ew.iload_n hx dL_law_827 rfl ?_
  refine Ew.iconst hx dL_law_828 k_iconst_2 ?_
  refine Ew.iadd' hx dL_law_829 (nI_add (5 * i) 2) ?_
  refine Ew.sld hx dL_law_830 hX (i := 5 * i + 2) rfl (by omega) ?_
  refine Ew.callV2 (y' := mX11_closure) hx dL_law_831 ml_RL_114 cf_X11_closure cv_X11_closure (ct_X11_closure G V hC _ _) rfl oc_0 rfl (by decide) (by decide) rfl (Nat.le_of_ble_eq_true rfl) ?_
  rintro _ V9 ⟨rfl, h9⟩; subst V9
  refine Ew.aload_n hx dL_law_834 rfl ?_
  refine Ew.aload_n hx dL_law_835 rfl ?_
  refine Ew.iload_n hx dL_law_836 rfl ?_
  refine Ew.iconst hx dL_law_837 k_iconst_1 ?_
  refine Ew.iadd' hx dL_law_838 (nI_add (5 * i) 1) ?_
  refine Ew.sld hx dL_law_839 hX (i := 5 * i + 1) rfl (by omega) ?_
  refine Ew.aload_n hx dL_law_840 rfl ?_
  refine Ew.iload_n hx dL_law_841 rfl ?_
  refine Ew.iconst hx dL_law_842 k_iconst_2 ?_
  refine Ew.iadd' hx dL_law_843 (nI_add (5 * i) 2) ?_
  refine Ew.sld hx dL_law_844 hX (i := 5 * i + 2) rfl (by omega) ?_
  refine Ew.callV2 (y' := mX12_closure) hx dL_law_845 ml_RL_117 cf_X12_closure cv_X12_closure (ct_X12_closure G V hL.2.1 hW _ _) rfl oc_19 rfl (by decide) (by decide) rfl (Nat.le_of_ble_eq_true rfl) ?_
  rintro v2 V2 hA2; obtain rfl := hA2.1
  refine Ew.icmp_eq_t hx (tgt := 1018) dL_law_848 rfl (rfl) ?_
  exact kk _ _ _ _ _ _ _ (li_q hL hA2)
set_option maxHeartbeats 4000000 in
set_option maxRecDepth 100000 in
theorem cs_draughtFor {G : GT} {C : CT} {V : Mm} {b L i : Nat} {xs : Nat → Int32} {s : Sv} {n z : Nat} {h : Nat → Sv} {B : Int} {tx : Tx} {ln : Nat} (hx : Cx G mL_law 12 C) (hX : SX G C b L xs) (hi : 5 * i + 5 ≤ L) (hL : LI V s n z h B tx ln) (hB0 : 0 ≤ B) (hB : B + 2100000 < 2147483648) (kk : ∀ (V2 : Mm) (s2 : Sv) (n2 z2 : Nat) (h2 : Nat → Sv) (tx2 : Tx) (ln2 : Nat), LI V2 s2 n2 z2 h2 (B + 2100000) tx2 ln2 → Ew G C V2 1018 [some (.ref b), some (adr G 0), some (adr G 532), some (.int (nI (5 * i)))] []) : Ew G C V 853 [some (.ref b), some (adr G 0), some (adr G 532), some (.int (nI (5 * i)))] [] := by
  have hC := hL.1
  have hW := hC.2.2.2.2.2.1.1
  refine Ew.aload_n hx dL_law_853 rfl ?_
  refine Ew.aload_n hx dL_law_854 rfl ?_
  refine Ew.iload_n hx dL_law_855 rfl ?_
  refine Ew.iconst hx dL_law_856 k_iconst_1 ?_
  refine Ew.iadd' hx dL_law_857 (nI_add (5 * i) 1) ?_
  refine Ew.sld hx dL_law_858 hX (i := 5 * i + 1) rfl (by omega) ?_
  refine Ew.aload_n hx dL_law_859 rfl ?_
  refine Ew.iload_n hx dL_law_860 rfl ?_
  refine Ew.iconst hx dL_law_861 k_iconst_2 ?_
  refine Ew.iadd' hx dL_law_862 (nI_add (5 * i) 2) ?_
  refine Ew.sld hx dL_law_863 hX (i := 5 * i + 2) rfl (by omega) ?_
  refine Ew.aload_n hx dL_law_864 rfl ?_
  refine Ew.iload_n hx dL_law_865 rfl ?_
  refine Ew.iconst hx dL_law_866 k_iconst_3 ?_
  refine Ew.iadd' hx dL_law_867 (nI_add (5 * i) 3) ?_
  refine Ew.sld hx dL_law_868 hX (i := 5 * i + 3) rfl (by omega) ?_
  refine Ew.callV2 (y' := mX11_draughtFor) hx dL_law_869 ml_RL_118 cf_X11_draughtFor cv_X11_draughtFor (ct_X11_draughtFor G V hC _ _ _) rfl oc_0 rfl (by decide) (by decide) rfl (Nat.le_of_ble_eq_true rfl) ?_
  rintro _ V9 ⟨rfl, h9⟩; subst V9
  refine Ew.aload_n hx dL_law_872 rfl ?_
  refine Ew.aload_n hx dL_law_873 rfl ?_
  refine Ew.iload_n hx dL_law_874 rfl ?_
  refine Ew.iconst hx dL_law_875 k_iconst_1 ?_
  refine Ew.iadd' hx dL_law_876 (nI_add (5 * i) 1) ?_
  refine Ew.sld hx dL_law_877 hX (i := 5 * i + 1) rfl (by omega) ?_
  refine Ew.aload_n hx dL_law_878 rfl ?_
  refine Ew.iload_n hx dL_law_879 rfl ?_
  refine Ew.iconst hx dL_law_880 k_iconst_2 ?_
  refine Ew.iadd' hx dL_law_881 (nI_add (5 * i) 2) ?_
  refine Ew.sld hx dL_law_882 hX (i := 5 * i + 2) rfl (by omega) ?_
  refine Ew.aload_n hx dL_law_883 rfl ?_
  refine Ew.iload_n hx dL_law_884 rfl ?_
  refine Ew.iconst hx dL_law_885 k_iconst_3 ?_
  refine Ew.iadd' hx dL_law_886 (nI_add (5 * i) 3) ?_
  refine Ew.sld hx dL_law_887 hX (i := 5 * i + 3) rfl (by omega) ?_
  refine Ew.callV2 (y' := mX12_draughtFor) hx dL_law_888 ml_RL_121 cf_X12_draughtFor cv_X12_draughtFor (ct_X12_draughtFor G V hL.2.1 hW _ _ _) rfl oc_19 rfl (by decide) (by decide) rfl (Nat.le_of_ble_eq_true rfl) ?_
  rintro v2 V2 hA2; obtain rfl := hA2.1
  refine Ew.icmp_eq_t hx (tgt := 1018) dL_law_891 rfl (rfl) ?_
  exact kk _ _ _ _ _ _ _ (li_q hL hA2)
set_option maxHeartbeats 4000000 in
set_option maxRecDepth 100000 in
theorem cs_bestRamp {G : GT} {C : CT} {V : Mm} {b L i : Nat} {xs : Nat → Int32} {s : Sv} {n z : Nat} {h : Nat → Sv} {B : Int} {tx : Tx} {ln : Nat} (hx : Cx G mL_law 12 C) (hX : SX G C b L xs) (hi : 5 * i + 5 ≤ L) (hL : LI V s n z h B tx ln) (hB0 : 0 ≤ B) (hB : B + 2100000 < 2147483648) (kk : ∀ (V2 : Mm) (s2 : Sv) (n2 z2 : Nat) (h2 : Nat → Sv) (tx2 : Tx) (ln2 : Nat), LI V2 s2 n2 z2 h2 (B + 2100000) tx2 ln2 → Ew G C V2 1018 [some (.ref b), some (adr G 0), some (adr G 532), some (.int (nI (5 * i)))] []) : Ew G C V 896 [some (.ref b), some (adr G 0), some (adr G 532), some (.int (nI (5 * i)))] [] := by
  have hC := hL.1
  have hW := hC.2.2.2.2.2.1.1
  refine Ew.aload_n hx dL_law_896 rfl ?_
  refine Ew.aload_n hx dL_law_897 rfl ?_
  refine Ew.iload_n hx dL_law_898 rfl ?_
  refine Ew.iconst hx dL_law_899 k_iconst_1 ?_
  refine Ew.iadd' hx dL_law_900 (nI_add (5 * i) 1) ?_
  refine Ew.sld hx dL_law_901 hX (i := 5 * i + 1) rfl (by omega) ?_
  refine Ew.aload_n hx dL_law_902 rfl ?_
  refine Ew.iload_n hx dL_law_903 rfl ?_
  refine Ew.iconst hx dL_law_904 k_iconst_2 ?_
  refine Ew.iadd' hx dL_law_905 (nI_add (5 * i) 2) ?_
  refine Ew.sld hx dL_law_906 hX (i := 5 * i + 2) rfl (by omega) ?_
  refine Ew.aload_n hx dL_law_907 rfl ?_
  refine Ew.iload_n hx dL_law_908 rfl ?_
  refine Ew.iconst hx dL_law_909 k_iconst_3 ?_
  refine Ew.iadd' hx dL_law_910 (nI_add (5 * i) 3) ?_
  refine Ew.sld hx dL_law_911 hX (i := 5 * i + 3) rfl (by omega) ?_
  refine Ew.callV2 (y' := mX11_bestRamp) hx dL_law_912 ml_RL_122 cf_X11_bestRamp cv_X11_bestRamp (ct_X11_bestRamp G V hC _ _ _) rfl oc_0 rfl (by decide) (by decide) rfl (Nat.le_of_ble_eq_true rfl) ?_
  rintro _ V9 ⟨rfl, h9⟩; subst V9
  refine Ew.aload_n hx dL_law_915 rfl ?_
  refine Ew.aload_n hx dL_law_916 rfl ?_
  refine Ew.iload_n hx dL_law_917 rfl ?_
  refine Ew.iconst hx dL_law_918 k_iconst_1 ?_
  refine Ew.iadd' hx dL_law_919 (nI_add (5 * i) 1) ?_
  refine Ew.sld hx dL_law_920 hX (i := 5 * i + 1) rfl (by omega) ?_
  refine Ew.aload_n hx dL_law_921 rfl ?_
  refine Ew.iload_n hx dL_law_922 rfl ?_
  refine Ew.iconst hx dL_law_923 k_iconst_2 ?_
  refine Ew.iadd' hx dL_law_924 (nI_add (5 * i) 2) ?_
  refine Ew.sld hx dL_law_925 hX (i := 5 * i + 2) rfl (by omega) ?_
  refine Ew.aload_n hx dL_law_926 rfl ?_
  refine Ew.iload_n hx dL_law_927 rfl ?_
  refine Ew.iconst hx dL_law_928 k_iconst_3 ?_
  refine Ew.iadd' hx dL_law_929 (nI_add (5 * i) 3) ?_
  refine Ew.sld hx dL_law_930 hX (i := 5 * i + 3) rfl (by omega) ?_
  refine Ew.callV2 (y' := mX12_bestRamp) hx dL_law_931 ml_RL_125 cf_X12_bestRamp cv_X12_bestRamp (ct_X12_bestRamp G V hL.2.1 hW _ _ _) rfl oc_19 rfl (by decide) (by decide) rfl (Nat.le_of_ble_eq_true rfl) ?_
  rintro v2 V2 hA2; obtain rfl := hA2.1
  refine Ew.icmp_eq_t hx (tgt := 1018) dL_law_934 rfl (rfl) ?_
  exact kk _ _ _ _ _ _ _ (li_q hL hA2)
set_option maxHeartbeats 4000000 in
set_option maxRecDepth 100000 in
theorem cs_expected {G : GT} {C : CT} {V : Mm} {b L i : Nat} {xs : Nat → Int32} {s : Sv} {n z : Nat} {h : Nat → Sv} {B : Int} {tx : Tx} {ln : Nat} (hx : Cx G mL_law 12 C) (hX : SX G C b L xs) (hi : 5 * i + 5 ≤ L) (hL : LI V s n z h B tx ln) (hB0 : 0 ≤ B) (hB : B + 2100000 < 2147483648) (kk : ∀ (V2 : Mm) (s2 : Sv) (n2 z2 : Nat) (h2 : Nat → Sv) (tx2 : Tx) (ln2 : Nat), LI V2 s2 n2 z2 h2 (B + 2100000) tx2 ln2 → Ew G C V2 1018 [some (.ref b), some (adr G 0), some (adr G 532), some (.int (nI (5 * i)))] []) : Ew G C V 939 [some (.ref b), some (adr G 0), some (adr G 532), some (.int (nI (5 * i)))] [] := by
  have hC := hL.1
  have hW := hC.2.2.2.2.2.1.1
  refine Ew.aload_n hx dL_law_939 rfl ?_
  refine Ew.aload_n hx dL_law_940 rfl ?_
  refine Ew.iload_n hx dL_law_941 rfl ?_
  refine Ew.iconst hx dL_law_942 k_iconst_1 ?_
  refine Ew.iadd' hx dL_law_943 (nI_add (5 * i) 1) ?_
  refine Ew.sld hx dL_law_944 hX (i := 5 * i + 1) rfl (by omega) ?_
  refine Ew.aload_n hx dL_law_945 rfl ?_
  refine Ew.iload_n hx dL_law_946 rfl ?_
  refine Ew.iconst hx dL_law_947 k_iconst_2 ?_
  refine Ew.iadd' hx dL_law_948 (nI_add (5 * i) 2) ?_
  refine Ew.sld hx dL_law_949 hX (i := 5 * i + 2) rfl (by omega) ?_
  refine Ew.callV2 (y' := mX11_expected) hx dL_law_950 ml_RL_126 cf_X11_expected cv_X11_expected (ct_X11_expected G V hC _ _) rfl oc_0 rfl (by decide) (by decide) rfl (Nat.le_of_ble_eq_true rfl) ?_
  rintro _ V9 ⟨rfl, h9⟩; subst V9
  refine Ew.aload_n hx dL_law_953 rfl ?_
  refine Ew.aload_n hx dL_law_954 rfl ?_
  refine Ew.iload_n hx dL_law_955 rfl ?_
  refine Ew.iconst hx dL_law_956 k_iconst_1 ?_
  refine Ew.iadd' hx dL_law_957 (nI_add (5 * i) 1) ?_
  refine Ew.sld hx dL_law_958 hX (i := 5 * i + 1) rfl (by omega) ?_
  refine Ew.aload_n hx dL_law_959 rfl ?_
  refine Ew.iload_n hx dL_law_960 rfl ?_
  refine Ew.iconst hx dL_law_961 k_iconst_2 ?_
  refine Ew.iadd' hx dL_law_962 (nI_add (5 * i) 2) ?_
  refine Ew.sld hx dL_law_963 hX (i := 5 * i + 2) rfl (by omega) ?_
  refine Ew.callV2 (y' := mX12_expected) hx dL_law_964 ml_RL_129 cf_X12_expected cv_X12_expected (ct_X12_expected G V hL.2.1 hW _ _) rfl oc_19 rfl (by decide) (by decide) rfl (Nat.le_of_ble_eq_true rfl) ?_
  rintro v2 V2 hA2; obtain rfl := hA2.1
  refine Ew.icmp_eq_t hx (tgt := 1018) dL_law_967 rfl (rfl) ?_
  exact kk _ _ _ _ _ _ _ (li_q hL hA2)
set_option maxHeartbeats 4000000 in
set_option maxRecDepth 100000 in
theorem cs_part {G : GT} {C : CT} {V : Mm} {b L i : Nat} {xs : Nat → Int32} {s : Sv} {n z : Nat} {h : Nat → Sv} {B : Int} {tx : Tx} {ln : Nat} (hx : Cx G mL_law 12 C) (hX : SX G C b L xs) (hi : 5 * i + 5 ≤ L) (hL : LI V s n z h B tx ln) (hB0 : 0 ≤ B) (hB : B + 2100000 < 2147483648) (kk : ∀ (V2 : Mm) (s2 : Sv) (n2 z2 : Nat) (h2 : Nat → Sv) (tx2 : Tx) (ln2 : Nat), LI V2 s2 n2 z2 h2 (B + 2100000) tx2 ln2 → Ew G C V2 1018 [some (.ref b), some (adr G 0), some (adr G 532), some (.int (nI (5 * i)))] []) : Ew G C V 972 [some (.ref b), some (adr G 0), some (adr G 532), some (.int (nI (5 * i)))] [] := by
  have hC := hL.1
  have hW := hC.2.2.2.2.2.1.1
  refine Ew.aload_n hx dL_law_972 rfl ?_
  refine Ew.aload_n hx dL_law_973 rfl ?_
  refine Ew.iload_n hx dL_law_974 rfl ?_
  refine Ew.iconst hx dL_law_975 k_iconst_1 ?_
  refine Ew.iadd' hx dL_law_976 (nI_add (5 * i) 1) ?_
  refine Ew.sld hx dL_law_977 hX (i := 5 * i + 1) rfl (by omega) ?_
  refine Ew.callV2 (y' := mX11_part) hx dL_law_978 ml_RL_130 cf_X11_part cv_X11_part (ct_X11_part G V hC _) rfl oc_0 rfl (by decide) (by decide) rfl (Nat.le_of_ble_eq_true rfl) ?_
  rintro _ V9 ⟨rfl, h9⟩; subst V9
  refine Ew.aload_n hx dL_law_981 rfl ?_
  refine Ew.aload_n hx dL_law_982 rfl ?_
  refine Ew.iload_n hx dL_law_983 rfl ?_
  refine Ew.iconst hx dL_law_984 k_iconst_1 ?_
  refine Ew.iadd' hx dL_law_985 (nI_add (5 * i) 1) ?_
  refine Ew.sld hx dL_law_986 hX (i := 5 * i + 1) rfl (by omega) ?_
  refine Ew.callV2 (y' := mX12_part) hx dL_law_987 ml_RL_133 cf_X12_part cv_X12_part (ct_X12_part G V hL.2.1 hW _) rfl oc_19 rfl (by decide) (by decide) rfl (Nat.le_of_ble_eq_true rfl) ?_
  intro v2 V2 hA0; have hA2 := QR.ri hA0; obtain rfl := hA2.1
  refine Ew.icmp_eq_t hx (tgt := 1018) dL_law_990 rfl (rfl) ?_
  exact kk _ _ _ _ _ _ _ (li_q hL hA2)
set_option maxHeartbeats 4000000 in
set_option maxRecDepth 100000 in
theorem cs_volume {G : GT} {C : CT} {V : Mm} {b L i : Nat} {xs : Nat → Int32} {s : Sv} {n z : Nat} {h : Nat → Sv} {B : Int} {tx : Tx} {ln : Nat} (hx : Cx G mL_law 12 C) (hX : SX G C b L xs) (hi : 5 * i + 5 ≤ L) (hL : LI V s n z h B tx ln) (hB0 : 0 ≤ B) (hB : B + 2100000 < 2147483648) (kk : ∀ (V2 : Mm) (s2 : Sv) (n2 z2 : Nat) (h2 : Nat → Sv) (tx2 : Tx) (ln2 : Nat), LI V2 s2 n2 z2 h2 (B + 2100000) tx2 ln2 → Ew G C V2 1018 [some (.ref b), some (adr G 0), some (adr G 532), some (.int (nI (5 * i)))] []) : Ew G C V 995 [some (.ref b), some (adr G 0), some (adr G 532), some (.int (nI (5 * i)))] [] := by
  have hC := hL.1
  have hW := hC.2.2.2.2.2.1.1
  refine Ew.aload_n hx dL_law_995 rfl ?_
  refine Ew.aload_n hx dL_law_996 rfl ?_
  refine Ew.iload_n hx dL_law_997 rfl ?_
  refine Ew.iconst hx dL_law_998 k_iconst_1 ?_
  refine Ew.iadd' hx dL_law_999 (nI_add (5 * i) 1) ?_
  refine Ew.sld hx dL_law_1000 hX (i := 5 * i + 1) rfl (by omega) ?_
  refine Ew.callV2 (y' := mX11_volume) hx dL_law_1001 ml_RL_134 cf_X11_volume cv_X11_volume (ct_X11_volume G V _) rfl oc_0 rfl (by decide) (by decide) rfl (Nat.le_of_ble_eq_true rfl) ?_
  rintro _ V9 ⟨rfl, h9⟩; subst V9
  refine Ew.aload_n hx dL_law_1004 rfl ?_
  refine Ew.aload_n hx dL_law_1005 rfl ?_
  refine Ew.iload_n hx dL_law_1006 rfl ?_
  refine Ew.iconst hx dL_law_1007 k_iconst_1 ?_
  refine Ew.iadd' hx dL_law_1008 (nI_add (5 * i) 1) ?_
  refine Ew.sld hx dL_law_1009 hX (i := 5 * i + 1) rfl (by omega) ?_
  refine Ew.callV2 (y' := mX12_volume) hx dL_law_1010 ml_RL_137 cf_X12_volume cv_X12_volume (ct_X12_volume G V _) rfl oc_19 rfl (by decide) (by decide) rfl (Nat.le_of_ble_eq_true rfl) ?_
  intro v2 V2 hA0; have hA2 := QR.ri hA0; obtain rfl := hA2.1
  refine Ew.icmp_eq_t hx (tgt := 1018) dL_law_1013 rfl (rfl) ?_
  exact kk _ _ _ _ _ _ _ (li_q hL hA2)
theorem sp30 (w : Int32) : w = 0 ∨ w = 1 ∨ w = 2 ∨ w = 3 ∨ w = 4 ∨ w = 5 ∨ w = 6 ∨ w = 7 ∨ w = 8 ∨ w = 9 ∨ w = 10 ∨ w = 11 ∨ w = 12 ∨ w = 13 ∨ w = 14 ∨ w = 15 ∨ w = 16 ∨ w = 17 ∨ w = 18 ∨ w = 19 ∨ w = 20 ∨ w = 21 ∨ w = 22 ∨ w = 23 ∨ w = 24 ∨ w = 25 ∨ w = 26 ∨ w = 27 ∨ w = 28 ∨ w = 29 ∨ (w.toInt < 0 ∨ 29 < w.toInt) := by
  by_cases q : w.toInt < 0
  · exact Or.inr (Or.inr (Or.inr (Or.inr (Or.inr (Or.inr (Or.inr (Or.inr (Or.inr (Or.inr (Or.inr (Or.inr (Or.inr (Or.inr (Or.inr (Or.inr (Or.inr (Or.inr (Or.inr (Or.inr (Or.inr (Or.inr (Or.inr (Or.inr (Or.inr (Or.inr (Or.inr (Or.inr (Or.inr (Or.inr (Or.inl q))))))))))))))))))))))))))))))
  · by_cases q2 : 29 < w.toInt
    · exact Or.inr (Or.inr (Or.inr (Or.inr (Or.inr (Or.inr (Or.inr (Or.inr (Or.inr (Or.inr (Or.inr (Or.inr (Or.inr (Or.inr (Or.inr (Or.inr (Or.inr (Or.inr (Or.inr (Or.inr (Or.inr (Or.inr (Or.inr (Or.inr (Or.inr (Or.inr (Or.inr (Or.inr (Or.inr (Or.inr (Or.inr q2))))))))))))))))))))))))))))))
    · have e : w = nI w.toInt.toNat := ofNI (by omega)
      have hl : w.toInt.toNat < 30 := by omega
      generalize w.toInt.toNat = m at e hl
      subst e
      exact (show ∀ m, m < 30 → (nI m = 0 ∨ nI m = 1 ∨ nI m = 2 ∨ nI m = 3 ∨ nI m = 4 ∨ nI m = 5 ∨ nI m = 6 ∨ nI m = 7 ∨ nI m = 8 ∨ nI m = 9 ∨ nI m = 10 ∨ nI m = 11 ∨ nI m = 12 ∨ nI m = 13 ∨ nI m = 14 ∨ nI m = 15 ∨ nI m = 16 ∨ nI m = 17 ∨ nI m = 18 ∨ nI m = 19 ∨ nI m = 20 ∨ nI m = 21 ∨ nI m = 22 ∨ nI m = 23 ∨ nI m = 24 ∨ nI m = 25 ∨ nI m = 26 ∨ nI m = 27 ∨ nI m = 28 ∨ nI m = 29 ∨ ((nI m).toInt < 0 ∨ 29 < (nI m).toInt)) by decide +kernel) m hl
set_option maxHeartbeats 4000000 in
set_option maxRecDepth 100000 in
theorem law_loop {G : GT} {C : CT} {b L : Nat} {xs : Nat → Int32} (hx : Cx G mL_law 12 C) (hX : SX G C b L xs) (hend : ∀ (V : Mm) (l : List (Option Value)), Ew G C V 1024 l []) : ∀ (n i : Nat), i + n = 513 → ∀ (V : Mm) (s : Sv) (nn z : Nat) (h : Nat → Sv) (tx : Tx) (ln : Nat), LI V s nn z h ((2100000 * i : Nat) : Int) tx ln → Ew G C V 18 [some (.ref b), some (adr G 0), some (adr G 532), some (.int (nI (5 * i)))] [] := by
  intro n
  induction n with
  | zero =>
    intro i hi0 V s nn z h tx ln hl
    refine Ew.iload_n hx dL_law_18 rfl ?_
    refine Ew.aload_n hx dL_law_19 rfl ?_
    refine Ew.slen hx dL_law_20 hX ?_
    refine Ew.iconst hx dL_law_21 k_iconst_5 ?_
    refine Ew.isub hx dL_law_22 ?_
    have hlen : (nI L - 5).toInt = (L : Int) - 5 := by
      have := hX.2.2.2
      rw [subT (by rw [tn (by omega), tl_5]; omega) (by rw [tn (by omega), tl_5]; omega), tn (by omega), tl_5]
    refine Ew.icmp_gt_t hx (tgt := 1024) dL_law_23 rfl (by have := hX.2.2.2; rw [il, hlen, tn (by omega)]; omega) ?_
    exact hend V [some (.ref b), some (adr G 0), some (adr G 532), some (.int (nI (5 * i)))]
  | succ n ih =>
    intro i hi0 V s nn z h tx ln hl
    refine Ew.iload_n hx dL_law_18 rfl ?_
    refine Ew.aload_n hx dL_law_19 rfl ?_
    refine Ew.slen hx dL_law_20 hX ?_
    refine Ew.iconst hx dL_law_21 k_iconst_5 ?_
    refine Ew.isub hx dL_law_22 ?_
    have hlen : (nI L - 5).toInt = (L : Int) - 5 := by
      have := hX.2.2.2
      rw [subT (by rw [tn (by omega), tl_5]; omega) (by rw [tn (by omega), tl_5]; omega), tn (by omega), tl_5]
    refine Ew.icmp_gt hx (tgt := 1024) dL_law_23 rfl (fun h23 => ?_) (fun h23 => ?_)
    · exact hend V [some (.ref b), some (adr G 0), some (adr G 532), some (.int (nI (5 * i)))]
    · have hi : 5 * i + 5 ≤ L := by
        have := hX.2.2.2
        rw [il, hlen, tn (by omega)] at h23
        omega
      have hi513 : i ≤ 512 := by omega
      have kk : ∀ (V2 : Mm) (s2 : Sv) (n2 z2 : Nat) (h2 : Nat → Sv) (tx2 : Tx) (ln2 : Nat), LI V2 s2 n2 z2 h2 (((2100000 * i : Nat) : Int) + 2100000) tx2 ln2 → Ew G C V2 1018 [some (.ref b), some (adr G 0), some (adr G 532), some (.int (nI (5 * i)))] [] := by
        intro V2 s2 n2 z2 h2 tx2 ln2 hl2
        refine Ew.iinc hx dL_law_1018 rfl (k_iinc_5 _) (by decide) rfl ?_
        rw [show nI (5 * i) + 5 = nI (5 * (i + 1)) from nI_add (5 * i) 5]
        refine Ew.goto hx (tgt := 18) dL_law_1021 rfl ?_
        refine ih (i + 1) (by omega) V2 s2 n2 z2 h2 tx2 ln2 ?_
        rw [show ((2100000 * (i + 1) : Nat) : Int) = ((2100000 * i : Nat) : Int) + 2100000 by omega]
        exact hl2
      refine Ew.aload_n hx dL_law_26 rfl ?_
      refine Ew.iload_n hx dL_law_27 rfl ?_
      refine Ew.sld hx dL_law_28 hX (i := 5 * i) rfl (by omega) ?_
      refine Ew.bipush hx dL_law_29 k_bipush_31 ?_
      refine Ew.iand hx dL_law_31 ?_
      generalize xs (5 * i) &&& 31 = w
      rcases sp30 w with hw | hw | hw | hw | hw | hw | hw | hw | hw | hw | hw | hw | hw | hw | hw | hw | hw | hw | hw | hw | hw | hw | hw | hw | hw | hw | hw | hw | hw | hw | hw
      · refine Ew.tswIn hx dL_law_32 (by rw [hw]; decide) (i := 0) (tgt := 168) rfl rfl ?_
        exact cs_setLevel hx hX hi hl (by omega) (by omega) kk
      · refine Ew.tswIn hx dL_law_32 (by rw [hw]; decide) (i := 1) (tgt := 191) rfl rfl ?_
        exact cs_setRate hx hX hi hl (by omega) (by omega) kk
      · refine Ew.tswIn hx dL_law_32 (by rw [hw]; decide) (i := 2) (tgt := 224) rfl rfl ?_
        exact cs_addRamp hx hX hi hl (by omega) (by omega) kk
      · refine Ew.tswIn hx dL_law_32 (by rw [hw]; decide) (i := 3) (tgt := 267) rfl rfl ?_
        exact cs_setFee hx hX hi hl (by omega) (by omega) kk
      · refine Ew.tswIn hx dL_law_32 (by rw [hw]; decide) (i := 4) (tgt := 300) rfl rfl ?_
        exact cs_setFine hx hX hi hl (by omega) (by omega) kk
      · refine Ew.tswIn hx dL_law_32 (by rw [hw]; decide) (i := 5) (tgt := 333) rfl rfl ?_
        exact cs_buy hx hX hi hl (by omega) (by omega) kk
      · refine Ew.tswIn hx dL_law_32 (by rw [hw]; decide) (i := 6) (tgt := 386) rfl rfl ?_
        exact cs_move hx hX hi hl (by omega) (by omega) kk
      · refine Ew.tswIn hx dL_law_32 (by rw [hw]; decide) (i := 7) (tgt := 419) rfl rfl ?_
        exact cs_cancel hx hX hi hl (by omega) (by omega) kk
      · refine Ew.tswIn hx dL_law_32 (by rw [hw]; decide) (i := 8) (tgt := 442) rfl rfl ?_
        exact cs_refund hx hX hi hl (by omega) (by omega) kk
      · refine Ew.tswIn hx dL_law_32 (by rw [hw]; decide) (i := 9) (tgt := 465) rfl rfl ?_
        exact cs_pass hx hX hi hl (by omega) (by omega) kk
      · refine Ew.tswIn hx dL_law_32 (by rw [hw]; decide) (i := 10) (tgt := 488) rfl rfl ?_
        exact cs_launch hx hX hi hl (by omega) (by omega) kk
      · refine Ew.tswIn hx dL_law_32 (by rw [hw]; decide) (i := 11) (tgt := 531) rfl rfl ?_
        exact cs_take hx hX hi hl (by omega) (by omega) kk
      · refine Ew.tswIn hx dL_law_32 (by rw [hw]; decide) (i := 12) (tgt := 554) rfl rfl ?_
        exact cs_restore hx hX hi hl (by omega) (by omega) kk
      · refine Ew.tswIn hx dL_law_32 (by rw [hw]; decide) (i := 13) (tgt := 577) rfl rfl ?_
        exact cs_undo hx hX hi hl (by omega) (by omega) kk
      · refine Ew.tswIn hx dL_law_32 (by rw [hw]; decide) (i := 14) (tgt := 590) rfl rfl ?_
        exact cs_append hx hX hi hl (by omega) (by omega) kk
      · refine Ew.tswIn hx dL_law_32 (by rw [hw]; decide) (i := 15) (tgt := 613) rfl rfl ?_
        exact cs_clearText hx hX hi hl (by omega) (by omega) kk
      · refine Ew.tswIn hx dL_law_32 (by rw [hw]; decide) (i := 16) (tgt := 626) rfl rfl ?_
        exact cs_run hx hX hi hl (by omega) (by omega) kk
      · refine Ew.tswIn hx dL_law_32 (by rw [hw]; decide) (i := 17) (tgt := 639) rfl rfl ?_
        exact cs_failure hx hX hi hl (by omega) (by omega) kk
      · refine Ew.tswIn hx dL_law_32 (by rw [hw]; decide) (i := 18) (tgt := 662) rfl rfl ?_
        exact cs_count hx hX hi hl (by omega) (by omega) kk
      · refine Ew.tswIn hx dL_law_32 (by rw [hw]; decide) (i := 19) (tgt := 685) rfl rfl ?_
        exact cs_ramp hx hX hi hl (by omega) (by omega) kk
      · refine Ew.tswIn hx dL_law_32 (by rw [hw]; decide) (i := 20) (tgt := 718) rfl rfl ?_
        exact cs_permit hx hX hi hl (by omega) (by omega) kk
      · refine Ew.tswIn hx dL_law_32 (by rw [hw]; decide) (i := 21) (tgt := 751) rfl rfl ?_
        exact cs_money hx hX hi hl (by omega) (by omega) kk
      · refine Ew.tswIn hx dL_law_32 (by rw [hw]; decide) (i := 22) (tgt := 774) rfl rfl ?_
        exact cs_rate hx hX hi hl (by omega) (by omega) kk
      · refine Ew.tswIn hx dL_law_32 (by rw [hw]; decide) (i := 23) (tgt := 797) rfl rfl ?_
        exact cs_forecast hx hX hi hl (by omega) (by omega) kk
      · refine Ew.tswIn hx dL_law_32 (by rw [hw]; decide) (i := 24) (tgt := 820) rfl rfl ?_
        exact cs_closure hx hX hi hl (by omega) (by omega) kk
      · refine Ew.tswIn hx dL_law_32 (by rw [hw]; decide) (i := 25) (tgt := 853) rfl rfl ?_
        exact cs_draughtFor hx hX hi hl (by omega) (by omega) kk
      · refine Ew.tswIn hx dL_law_32 (by rw [hw]; decide) (i := 26) (tgt := 896) rfl rfl ?_
        exact cs_bestRamp hx hX hi hl (by omega) (by omega) kk
      · refine Ew.tswIn hx dL_law_32 (by rw [hw]; decide) (i := 27) (tgt := 939) rfl rfl ?_
        exact cs_expected hx hX hi hl (by omega) (by omega) kk
      · refine Ew.tswIn hx dL_law_32 (by rw [hw]; decide) (i := 28) (tgt := 972) rfl rfl ?_
        exact cs_part hx hX hi hl (by omega) (by omega) kk
      · refine Ew.tswIn hx dL_law_32 (by rw [hw]; decide) (i := 29) (tgt := 995) rfl rfl ?_
        exact cs_volume hx hX hi hl (by omega) (by omega) kk
      · refine Ew.tswOut hx dL_law_32 (hw) (tgt := 1018) rfl ?_
        exact kk _ _ _ _ _ _ _ (li_q (a := 0) hl ⟨rfl, fun _ _ _ => rfl, fun _ _ => rfl⟩)
