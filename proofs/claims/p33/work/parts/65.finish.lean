theorem act_no {V V9 : Mm} {s s' : Sv} {n z : Nat} {h : Nat → Sv} {B B' : Int} {c a e : Int32} {v : Option Value} (hA : Act V s n z h B B' c a s' v V9) (hc : c = e) (he : e < 0) : v = some (.int e) ∧ CR V9 s n z h B := by
  rcases hA.2 with ⟨h1, h2, h3⟩ | ⟨h1, h2, h3⟩
  · rw [hc] at h2; exact ⟨h2, h3⟩
  · rw [hc] at h1; rw [h1] at he; exact absurd he (by decide)
theorem act_yes {V V9 : Mm} {s s' : Sv} {n z : Nat} {h : Nat → Sv} {B B' : Int} {c a : Int32} {v : Option Value} (hA : Act V s n z h B B' c a s' v V9) (hc : c = 0) : v = some (.int a) ∧ CR V9 s' (nxH n) (szH z) (psh s h) B' := by
  rcases hA.2 with ⟨h1, h2, h3⟩ | ⟨h1, h2, h3⟩
  · rw [hc] at h1; exact absurd h1 (by decide)
  · exact ⟨h2, h3⟩
theorem und_yes {V V9 : Mm} {n z : Nat} {h : Nat → Sv} {B : Int} {v : Option Value} (hU : Fr 1 528 V V9 ∧ ((z = 0 ∧ v = some (.int (-100002)) ∧ V9 = V) ∨ (0 < z ∧ v = some (.int (nI (z - 1))) ∧ CR V9 (h 0) (pvH n) (z - 1) (fun j => h (j + 1)) B))) (hz : 0 < z) : v = some (.int (nI (z - 1))) ∧ CR V9 (h 0) (pvH n) (z - 1) (fun j => h (j + 1)) B := by
  obtain ⟨-, q | ⟨-, h2, h3⟩⟩ := hU
  · omega
  · exact ⟨h2, h3⟩
theorem nt_1 : nt 1 = 1 := by decide
theorem cd_level0 : cdLevel 5001 = -100001 := cif_f (by decide)
theorem cd_level1 : cdLevel 0 = 0 := cif_t (by decide)
theorem cd_rate0 : cdRate 26 0 = -100001 := cif_f (by decide)
theorem cd_ramp0 (s : Sv) : cdRamp s 0 0 1 = -100001 := cif_f (by decide)
theorem cd_buy0 (s : Sv) : cdBuy s 0 5 35 0 = -100001 := cif_f (fun q => absurd q.2.1.2.2 (by decide))
theorem cd_move0 {s : Sv} {B : Int} (hW : WF s B) : cdMove s 12 0 = -100001 := cif_f (fun q => by
  have q1 := q.1.2
  have h := hW.2.2.2.1
  rw [il, tl_12] at q1
  omega)
theorem cd_launch0 (s : Sv) : cdLaunch s 0 0 (-2) = -100001 := cif_f (fun q => by
  rcases q.2.2 with h | h
  · exact absurd h (by decide)
  · exact absurd h.1 (by decide))
theorem cd_pass0 (s : Sv) : cdPass s 501 = -100001 := cif_f (by decide)
theorem fo_182 (s : Sv) : anForecast s 182 = -100001 := cif_f (by decide)
theorem cd_rest0 {s : Sv} (h : s 387 = 0) : cdRestore s 1 = -100002 := (cif_t (by decide)).trans (cif_t (by rw [nt_1]; exact h))
theorem cd_rest1 {s : Sv} (h : s 387 = 1) : cdRestore s 1 = 0 := (cif_t (by decide)).trans (cif_f (by rw [nt_1]; show ¬ s 387 = 0; rw [h]; decide))
theorem cd_take1 : cdTake 1 = 0 := cif_t (by decide)
theorem cd_pass1 {s : Sv} {B : Int} (hW : WF s B) (h : tN s ≤ 20) : cdPass s (-400) = 0 := by
  refine (cif_t (by decide)).trans (cif_f (fun q => ?_))
  have ht := hW.t
  rw [ht.1, iq, tn (by omega), tl_181] at q
  omega
theorem tk_lo (s : Sv) {m : Nat} (h : m < 193) : nxTake s (nt 1) m = s m := by
  unfold nxTake
  rw [if_neg (by omega), if_neg (by omega)]
theorem tk_387 (s : Sv) : nxTake s (nt 1) 387 = 1 := by
  unfold nxTake
  rw [nt_1]
  rfl
theorem tk_193 (s : Sv) : nxTake s (nt 1) 193 = s 193 := by
  unfold nxTake
  rw [nt_1, if_neg (by decide), if_neg (by decide)]
theorem tk_388 (s : Sv) : nxTake s (nt 1) 388 = s 0 := by
  unfold nxTake
  rw [nt_1]
  rfl
theorem iv_take {s : Sv} {M B : Int} (hW : WF s B) (hI : IV s M) : IV (nxTake s (nt 1)) M := by
  have hnr := hW.nr.2
  have hnp := hW.np.2
  exact hI.same (tk_lo s (by decide)) (tk_lo s (by decide)) (tk_lo s (by decide)) (fun p j hp hj => tk_lo s (by omega)) (fun r hr => tk_lo s (by omega))
theorem lv_0 {V : Mm} {s : Sv} {n z : Nat} {h : Nat → Sv} {B : Int} (hC : CR V s n z h B) : ¬ s 1 < 0 := fun q => by
  have hl := hC.2.2.2.2.2.1.1.lv
  rw [il, tl_0] at q
  omega
theorem ls_0 {V : Mm} {s : Sv} {n z : Nat} {h : Nat → Sv} {B : Int} (hC : CR V s n z h B) : ¬ nI (lsN s (npN s)) < 0 := fun q => by
  have hl := lsN_le hC.2.2.2.2.2.1.1
  rw [il, tn (by omega), tl_0] at q
  omega
def sft (h : Nat → Sv) : Nat → Sv := fun j => h (j + 1)
theorem nxRestore_hi (s : Sv) (i : Nat) {m : Nat} (h : 193 ≤ m) : nxRestore s i m = s m := if_neg (by omega)
/-- the snapshots after a take, a day and a level -/
theorem hi_3 {s : Sv} {B : Int} (hW : WF s B) : upd (nxPass (nxTake s (nt 1)) (-400)) 1 0 193 = s 193 ∧ upd (nxPass (nxTake s (nt 1)) (-400)) 1 0 387 = 1 ∧ nxRestore (upd (nxPass (nxTake s (nt 1)) (-400)) 1 0) (nt 1) 0 = s 0 := by
  have hnp : npN (nxTake s (nt 1)) ≤ 12 := by
    unfold npN
    rw [tk_lo s (by decide)]
    exact hW.np.2
  have hp : ∀ m, 193 ≤ m → upd (nxPass (nxTake s (nt 1)) (-400)) 1 0 m = nxTake s (nt 1) m := hi_upd (by decide) (hi_upd (by decide) (hi_upd (by decide) (hi_psS _ hnp)))
  refine ⟨(hp 193 (by decide)).trans (tk_193 s), (hp 387 (by decide)).trans (tk_387 s), ?_⟩
  unfold nxRestore
  rw [if_pos (by decide), nt_1]
  exact (hp 388 (by decide)).trans (tk_388 s)
set_option maxHeartbeats 4000000 in
set_option maxRecDepth 100000 in
theorem lt_e1 {G : GT} {C : CT} {V : Mm} (hx : Cx G mL_law 7 C) {s : Sv} {n z : Nat} {h : Nat → Sv} {v : Int32} (hC : CR V s n z h 600000) (hr2 : 2 ≤ nrN s) (ht20 : tN s ≤ 20) (f1 : s 387 = 0) (kk : ∀ V8, CR V8 s n z h 600000 → Ew G C V8 449 [some (.ref (xB G)), some (adr G 0), some (.int v), some (.long (dgS s)), none, none, none, none, none, none, none, none] []) : Ew G C V 298 [some (.ref (xB G)), some (adr G 0), some (.int v), some (.int (nI 20)), none, none, none, none, none, none, none, none] [] := by
  have hW := hC.2.2.2.2.2.1.1
  have hq : 0 ≤ nI (lowN (shI v 7) 301) ∧ nI (lowN (shI v 7) 301) ≤ 300 := by
    have := lowN_lt (shI v 7) (show 0 < 301 by decide)
    rw [ie, ie, tn (by omega), tl_0, tl_300]
    omega
  refine Ew.aload_n hx dL_law_298 rfl ?_
  refine Ew.callS (y' := mL_digest) hx dL_law_299 ml_RL_95 cf_L_digest cs_L_digest (ct_L_digest G V hC) rfl (by decide) (by decide) rfl (Nat.le_of_ble_eq_true rfl) ?_
  rintro _ V9 ⟨rfl, h9⟩; subst V9
  refine Ew.lstore_n hx dL_law_302 (by decide) rfl rfl ?_
  refine Ew.aload_n hx dL_law_303 rfl ?_
  refine Ew.sipush hx dL_law_304 k_sipush_5001 ?_
  refine Ew.callV2 (y' := mX11_setLevel) hx dL_law_307 ml_RL_38 cf_X11_setLevel cv_X11_setLevel (ct_X11_setLevel G V hC (by decide) (by decide) 5001) rfl oc_0 rfl (by decide) (by decide) rfl (Nat.le_of_ble_eq_true rfl) ?_
  rintro v1 V1 hA1; obtain ⟨rfl, hC1⟩ := act_no hA1 cd_level0 (by decide)
  refine Ew.ldc hx dL_law_310 kn_RL_73 ?_
  refine Ew.icmp_ne_f hx (tgt := 421) dL_law_312 rfl (rfl) ?_
  refine Ew.aload_n hx dL_law_315 rfl ?_
  refine Ew.bipush hx dL_law_316 k_bipush_26 ?_
  refine Ew.iconst hx dL_law_318 k_iconst_0 ?_
  refine Ew.callV2 (y' := mX11_setRate) hx dL_law_319 ml_RL_41 cf_X11_setRate cv_X11_setRate (ct_X11_setRate G V1 hC1 (by decide) (by decide) 26 0) rfl oc_0 rfl (by decide) (by decide) rfl (Nat.le_of_ble_eq_true rfl) ?_
  rintro v2 V2 hA2; obtain ⟨rfl, hC2⟩ := act_no hA2 cd_rate0 (by decide)
  refine Ew.ldc hx dL_law_322 kn_RL_73 ?_
  refine Ew.icmp_ne_f hx (tgt := 421) dL_law_324 rfl (rfl) ?_
  refine Ew.aload_n hx dL_law_327 rfl ?_
  refine Ew.iconst hx dL_law_328 k_iconst_0 ?_
  refine Ew.iconst hx dL_law_329 k_iconst_0 ?_
  refine Ew.iconst hx dL_law_330 k_iconst_1 ?_
  refine Ew.callV2 (y' := mX11_addRamp) hx dL_law_331 ml_RL_47 cf_X11_addRamp cv_X11_addRamp (ct_X11_addRamp G V2 hC2 (by decide) (by decide) 0 0 1) rfl oc_0 rfl (by decide) (by decide) rfl (Nat.le_of_ble_eq_true rfl) ?_
  rintro v3 V3 hA3; obtain ⟨rfl, hC3⟩ := act_no hA3 (cd_ramp0 s) (by decide)
  refine Ew.ldc hx dL_law_334 kn_RL_73 ?_
  refine Ew.icmp_ne_f hx (tgt := 421) dL_law_336 rfl (rfl) ?_
  refine Ew.aload_n hx dL_law_339 rfl ?_
  refine Ew.iconst hx dL_law_340 k_iconst_0 ?_
  refine Ew.iconst hx dL_law_341 k_iconst_5 ?_
  refine Ew.bipush hx dL_law_342 k_bipush_35 ?_
  refine Ew.iconst hx dL_law_344 k_iconst_0 ?_
  refine Ew.callV2 (y' := mX11_buy) hx dL_law_345 ml_RL_51 cf_X11_buy cv_X11_buy (ct_X11_buy G V3 hC3 (by decide) (by decide) 0 5 35 0) rfl oc_0 rfl (by decide) (by decide) rfl (Nat.le_of_ble_eq_true rfl) ?_
  rintro v4 V4 hA4; obtain ⟨rfl, hC4⟩ := act_no hA4 (cd_buy0 s) (by decide)
  refine Ew.ldc hx dL_law_348 kn_RL_73 ?_
  refine Ew.icmp_ne_f hx (tgt := 421) dL_law_350 rfl (rfl) ?_
  refine Ew.aload_n hx dL_law_353 rfl ?_
  refine Ew.bipush hx dL_law_354 k_bipush_12 ?_
  refine Ew.iconst hx dL_law_356 k_iconst_0 ?_
  refine Ew.callV2 (y' := mX11_move) hx dL_law_357 ml_RL_55 cf_X11_move cv_X11_move (ct_X11_move G V4 hC4 (by decide) (by decide) 12 0) rfl oc_0 rfl (by decide) (by decide) rfl (Nat.le_of_ble_eq_true rfl) ?_
  rintro v5 V5 hA5; obtain ⟨rfl, hC5⟩ := act_no hA5 (cd_move0 hW) (by decide)
  refine Ew.ldc hx dL_law_360 kn_RL_73 ?_
  refine Ew.icmp_ne_f hx (tgt := 421) dL_law_362 rfl (rfl) ?_
  refine Ew.aload_n hx dL_law_365 rfl ?_
  refine Ew.iconst hx dL_law_366 k_iconst_0 ?_
  refine Ew.iconst hx dL_law_367 k_iconst_0 ?_
  refine Ew.bipush hx dL_law_368 k_bipush_m2 ?_
  refine Ew.callV2 (y' := mX11_launch) hx dL_law_370 ml_RL_64 cf_X11_launch cv_X11_launch (ct_X11_launch G V5 hC5 (by decide) (by decide) 0 0 (-2)) rfl oc_0 rfl (by decide) (by decide) rfl (Nat.le_of_ble_eq_true rfl) ?_
  rintro v6 V6 hA6; obtain ⟨rfl, hC6⟩ := act_no hA6 (cd_launch0 s) (by decide)
  refine Ew.ldc hx dL_law_373 kn_RL_73 ?_
  refine Ew.icmp_ne_f hx (tgt := 421) dL_law_375 rfl (rfl) ?_
  refine Ew.aload_n hx dL_law_378 rfl ?_
  refine Ew.sipush hx dL_law_379 k_sipush_501 ?_
  refine Ew.callV2 (y' := mX11_pass) hx dL_law_382 ml_RL_70 cf_X11_pass cv_X11_pass (ct_X11_pass G V6 hC6 (by decide) (by decide) 501) rfl oc_0 rfl (by decide) (by decide) rfl (Nat.le_of_ble_eq_true rfl) ?_
  rintro v7 V7 hA7; obtain ⟨rfl, hC7⟩ := act_no hA7 (cd_pass0 s) (by decide)
  refine Ew.ldc hx dL_law_385 kn_RL_73 ?_
  refine Ew.icmp_ne_f hx (tgt := 421) dL_law_387 rfl (rfl) ?_
  refine Ew.aload_n hx dL_law_390 rfl ?_
  refine Ew.sipush hx dL_law_391 k_sipush_182 ?_
  refine Ew.callV2 (y' := mX11_forecast) hx dL_law_394 ml_RL_84 cf_X11_forecast cv_X11_forecast (ct_X11_forecast G V7 hC7 _) rfl oc_0 rfl (by decide) (by decide) rfl (Nat.le_of_ble_eq_true rfl) ?_
  rintro _ V9 ⟨rfl, h9⟩; subst V9
  refine Ew.ldc hx dL_law_397 kn_RL_73 ?_
  refine Ew.icmp_ne_f hx (tgt := 421) dL_law_399 rfl (fo_182 s) ?_
  refine Ew.aload_n hx dL_law_402 rfl ?_
  refine Ew.iconst hx dL_law_403 k_iconst_1 ?_
  refine Ew.callV2 (y' := mX11_restore) hx dL_law_404 ml_RL_115 cf_X11_restore cv_X11_restore (ct_X11_restore G V7 hC7 (by decide) (by decide) 1) rfl oc_0 rfl (by decide) (by decide) rfl (Nat.le_of_ble_eq_true rfl) ?_
  rintro v8 V8 hA8; obtain ⟨rfl, hC8⟩ := act_no hA8 (cd_rest0 f1) (by decide)
  refine Ew.ldc hx dL_law_407 kn_RL_118 ?_
  refine Ew.icmp_ne_f hx (tgt := 421) dL_law_409 rfl (rfl) ?_
  refine Ew.aload_n hx dL_law_412 rfl ?_
  refine Ew.callS (y' := mL_digest) hx dL_law_413 ml_RL_95 cf_L_digest cs_L_digest (ct_L_digest G V8 hC8) rfl (by decide) (by decide) rfl (Nat.le_of_ble_eq_true rfl) ?_
  rintro _ V9 ⟨rfl, h9⟩; subst V9
  refine Ew.lload_n hx dL_law_416 rfl ?_
  refine Ew.lcmp hx dL_law_417 ?_
  refine Ew.if_eq_t hx (tgt := 423) dL_law_418 rfl (lc_0 _) ?_
  refine Ew.aload_n hx dL_law_423 rfl ?_
  refine Ew.iload_n hx dL_law_424 rfl ?_
  refine Ew.iconst hx dL_law_425 k_iconst_3 ?_
  refine Ew.ishr hx dL_law_426 ?_
  refine Ew.iconst hx dL_law_427 k_iconst_2 ?_
  refine Ew.callS (y' := mL_low) hx dL_law_428 ml_RL_33 cf_L_low cs_L_low (ct_L_low G V8 _ (n := 2) (by decide) (by decide)) rfl (by decide) (by decide) rfl (Nat.le_of_ble_eq_true rfl) ?_
  rintro _ V9 ⟨rfl, h9⟩; subst V9
  refine Ew.iload_n hx dL_law_431 rfl ?_
  refine Ew.bipush hx dL_law_432 k_bipush_7 ?_
  refine Ew.ishr hx dL_law_434 ?_
  refine Ew.sipush hx dL_law_435 k_sipush_301 ?_
  refine Ew.callS (y' := mL_low) hx dL_law_438 ml_RL_33 cf_L_low cs_L_low (ct_L_low G V8 _ (n := 301) (by decide) (by decide)) rfl (by decide) (by decide) rfl (Nat.le_of_ble_eq_true rfl) ?_
  rintro _ V9 ⟨rfl, h9⟩; subst V9
  refine Ew.callS (y' := mL_isForecast) hx dL_law_441 ml_RL_119 cf_L_isForecast cs_L_isForecast (ct_L_isForecast G V8 hC8 (r := lowN (shI v 3) 2) (Nat.lt_of_lt_of_le (lowN_lt _ (by decide)) hr2) (by omega) hq) rfl (by decide) (by decide) rfl (Nat.le_of_ble_eq_true rfl) ?_
  rintro _ V9 ⟨rfl, h9⟩; subst V9
  refine Ew.if_ne_t hx (tgt := 449) dL_law_444 rfl (by decide) ?_
  exact kk V8 hC8
set_option maxHeartbeats 4000000 in
set_option maxRecDepth 100000 in
theorem lt_e2 {G : GT} {C : CT} {V : Mm} (hx : Cx G mL_law 7 C) {s : Sv} {n z : Nat} {h : Nat → Sv} {v : Int32} (hC : CR V s n z h 600000) (kk : ∀ V9, CR V9 (nxTake s (nt 1)) (nxH n) (szH z) (psh s h) 600000 → Ew G C V9 466 [some (.ref (xB G)), some (adr G 0), some (.int v), some (.long (dgS s)), none, some (.int (s 0)), none, none, none, none, none, none] []) : Ew G C V 449 [some (.ref (xB G)), some (adr G 0), some (.int v), some (.long (dgS s)), none, none, none, none, none, none, none, none] [] := by
  have hW := hC.2.2.2.2.2.1.1
  refine Ew.aload_n hx dL_law_449 rfl ?_
  refine Ew.iconst hx dL_law_450 k_iconst_0 ?_
  refine Ew.callV2 (y' := mX11_count) hx dL_law_451 ml_RL_12 cf_X11_count cv_X11_count (ct_X11_count G V hC _) rfl oc_0 rfl (by decide) (by decide) rfl (Nat.le_of_ble_eq_true rfl) ?_
  rintro _ V9 ⟨rfl, h9⟩; subst V9
  rw [cn_0]
  refine Ew.istoreL hx dL_law_454 (by decide) rfl ?_
  refine Ew.aload_n hx dL_law_456 rfl ?_
  refine Ew.iconst hx dL_law_457 k_iconst_1 ?_
  refine Ew.callV2 (y' := mX11_take) hx dL_law_458 ml_RL_123 cf_X11_take cv_X11_take (ct_X11_take G V hC (by decide) (by decide) 1) rfl oc_0 rfl (by decide) (by decide) rfl (Nat.le_of_ble_eq_true rfl) ?_
  rintro v9 V9 hA9; obtain ⟨rfl, hC9⟩ := act_yes hA9 cd_take1
  refine Ew.iload hx dL_law_461 rfl ?_
  refine Ew.icmp_ne_f hx (tgt := 510) dL_law_463 rfl (rfl) ?_
  exact kk V9 hC9
set_option maxHeartbeats 4000000 in
set_option maxRecDepth 100000 in
theorem lt_e3 {G : GT} {C : CT} {V : Mm} (hx : Cx G mL_law 7 C) {s : Sv} {n z : Nat} {h : Nat → Sv} {v : Int32} {g : Int64} {x : Int32} {M : Int} (hC : CR V s n z h 600000) (hI : IV s M) (hM : M < 2000000000) (ht : tN s ≤ 20) (kk : ∀ V2, CR V2 (upd (nxPass s (-400)) 1 0) (nxH (nxH n)) (szH (szH z)) (psh (nxPass s (-400)) (psh s h)) 615000 → Ew G C V2 491 [some (.ref (xB G)), some (adr G 0), some (.int v), some (.long g), none, some (.int x), none, none, none, none, none, none] []) : Ew G C V 466 [some (.ref (xB G)), some (adr G 0), some (.int v), some (.long g), none, some (.int x), none, none, none, none, none, none] [] := by
  have hW := hC.2.2.2.2.2.1.1
  refine Ew.aload_n hx dL_law_466 rfl ?_
  refine Ew.sipush hx dL_law_467 k_sipush_m400 ?_
  refine Ew.callV2 (y' := mX11_pass) hx dL_law_470 ml_RL_70 cf_X11_pass cv_X11_pass (ct_X11_pass G V hC (by decide) (by decide) (-400)) rfl oc_0 rfl (by decide) (by decide) rfl (Nat.le_of_ble_eq_true rfl) ?_
  rintro v10 V10 hA10; obtain ⟨rfl, hC10⟩ := act_yes hA10 (cd_pass1 hW ht)
  refine Ew.if_lt_f hx (tgt := 510) dL_law_473 rfl (ls_0 hC) ?_
  refine Ew.aload_n hx dL_law_476 rfl ?_
  refine Ew.iconst hx dL_law_477 k_iconst_0 ?_
  refine Ew.callV2 (y' := mX11_setLevel) hx dL_law_478 ml_RL_38 cf_X11_setLevel cv_X11_setLevel (ct_X11_setLevel G V10 hC10 (by decide) (by decide) 0) rfl oc_0 rfl (by decide) (by decide) rfl (Nat.le_of_ble_eq_true rfl) ?_
  rintro v11 V11 hA11; obtain ⟨rfl, hC11⟩ := act_yes hA11 cd_level1
  have hI3 := iv_put (iv_pass hW hI hM (cd_pass1 hW ht)).1 (m := 1) (x := 0) (by decide) (by decide) (by decide) (by decide)
  refine Ew.if_lt_f hx (tgt := 510) dL_law_481 rfl (lv_0 hC10) ?_
  refine Ew.aload_n hx dL_law_484 rfl ?_
  refine Ew.callS (y' := mL_addsUp) hx dL_law_485 ml_RL_111 cf_L_addsUp cs_L_addsUp (ct_L_addsUp G V11 hC11 hI3) rfl (by decide) (by decide) rfl (Nat.le_of_ble_eq_true rfl) ?_
  rintro _ V9 ⟨rfl, h9⟩; subst V9
  refine Ew.if_eq_f hx (tgt := 510) dL_law_488 rfl (by decide) ?_
  exact kk V11 hC11
set_option maxHeartbeats 4000000 in
set_option maxRecDepth 100000 in
theorem lt_e4 {G : GT} {C : CT} {V : Mm} (hx : Cx G mL_law 7 C) {s : Sv} {n z : Nat} {h : Nat → Sv} {v : Int32} {g : Int64} {x : Int32} (hC : CR V s n z h 615000) (f0 : s 193 = 0) (f1 : s 387 = 1) (fx : nxRestore s (nt 1) 0 = x) (kk : ∀ V2 s2, CR V2 s2 (nxH n) (szH z) (psh s h) 615000 → Ew G C V2 512 [some (.ref (xB G)), some (adr G 0), some (.int v), some (.long g), none, some (.int x), none, none, none, none, none, none] []) : Ew G C V 491 [some (.ref (xB G)), some (adr G 0), some (.int v), some (.long g), none, some (.int x), none, none, none, none, none, none] [] := by
  have hW := hC.2.2.2.2.2.1.1
  refine Ew.aload_n hx dL_law_491 rfl ?_
  refine Ew.iconst hx dL_law_492 k_iconst_1 ?_
  refine Ew.callV2 (y' := mX11_restore) hx dL_law_493 ml_RL_115 cf_X11_restore cv_X11_restore (ct_X11_restore G V hC (by decide) (by decide) 1) rfl oc_0 rfl (by decide) (by decide) rfl (Nat.le_of_ble_eq_true rfl) ?_
  rintro v12 V12 hA12; obtain ⟨rfl, hC12⟩ := act_yes hA12 (cd_rest1 f1)
  refine Ew.iload hx dL_law_496 rfl ?_
  refine Ew.icmp_ne_f hx (tgt := 510) dL_law_498 rfl (fx) ?_
  refine Ew.aload_n hx dL_law_501 rfl ?_
  refine Ew.iconst hx dL_law_502 k_iconst_5 ?_
  refine Ew.callV2 (y' := mX11_count) hx dL_law_503 ml_RL_12 cf_X11_count cv_X11_count (ct_X11_count G V12 hC12 _) rfl oc_0 rfl (by decide) (by decide) rfl (Nat.le_of_ble_eq_true rfl) ?_
  rintro _ V9 ⟨rfl, h9⟩; subst V9
  rw [cn_5]
  refine Ew.iconst hx dL_law_506 k_iconst_1 ?_
  refine Ew.icmp_eq_t hx (tgt := 512) dL_law_507 rfl (by rw [nxRestore_hi _ _ (by decide), nxRestore_hi _ _ (by decide), f0, f1]; rfl) ?_
  exact kk V12 _ hC12
set_option maxHeartbeats 4000000 in
set_option maxRecDepth 100000 in
theorem lt_e5 {G : GT} {C : CT} {V : Mm} (hx : Cx G mL_law 7 C) {s : Sv} {n z : Nat} {h : Nat → Sv} {v : Int32} {s0 : Sv} {B : Int} {x : Int32} (hC : CR V s n 5 h B) (e : h 3 = s0) (hend : ∀ (V : Mm) (l : List (Option Value)), Ew G C V 553 l []) : Ew G C V 512 [some (.ref (xB G)), some (adr G 0), some (.int v), some (.long (dgS s0)), none, some (.int x), none, none, none, none, none, none] [] := by
  have hW := hC.2.2.2.2.2.1.1
  refine Ew.aload_n hx dL_law_512 rfl ?_
  refine Ew.callV2 (y' := mX11_undo) hx dL_law_513 ml_RL_107 cf_X11_undo cv_X11_undo (ct_X11_undo G V hC) rfl oc_0 rfl (by decide) (by decide) rfl (Nat.le_of_ble_eq_true rfl) ?_
  rintro v13 V13 hU13; obtain ⟨rfl, hC13⟩ := und_yes hU13 (by decide)
  have hD13 : CR V13 (h 0) (pvH n) 4 (sft h) B := hC13
  refine Ew.iconst hx dL_law_516 k_iconst_4 ?_
  refine Ew.icmp_ne_f hx (tgt := 557) dL_law_517 rfl (by decide) ?_
  refine Ew.aload_n hx dL_law_520 rfl ?_
  refine Ew.callV2 (y' := mX11_undo) hx dL_law_521 ml_RL_107 cf_X11_undo cv_X11_undo (ct_X11_undo G V13 hD13) rfl oc_0 rfl (by decide) (by decide) rfl (Nat.le_of_ble_eq_true rfl) ?_
  rintro v14 V14 hU14; obtain ⟨rfl, hC14⟩ := und_yes hU14 (by decide)
  have hD14 : CR V14 (sft h 0) (pvH (pvH n)) 3 (sft (sft h)) B := hC14
  refine Ew.iconst hx dL_law_524 k_iconst_3 ?_
  refine Ew.icmp_ne_f hx (tgt := 557) dL_law_525 rfl (by decide) ?_
  refine Ew.aload_n hx dL_law_528 rfl ?_
  refine Ew.callV2 (y' := mX11_undo) hx dL_law_529 ml_RL_107 cf_X11_undo cv_X11_undo (ct_X11_undo G V14 hD14) rfl oc_0 rfl (by decide) (by decide) rfl (Nat.le_of_ble_eq_true rfl) ?_
  rintro v15 V15 hU15; obtain ⟨rfl, hC15⟩ := und_yes hU15 (by decide)
  have hD15 : CR V15 (sft (sft h) 0) (pvH (pvH (pvH n))) 2 (sft (sft (sft h))) B := hC15
  refine Ew.iconst hx dL_law_532 k_iconst_2 ?_
  refine Ew.icmp_ne_f hx (tgt := 557) dL_law_533 rfl (by decide) ?_
  refine Ew.aload_n hx dL_law_536 rfl ?_
  refine Ew.callV2 (y' := mX11_undo) hx dL_law_537 ml_RL_107 cf_X11_undo cv_X11_undo (ct_X11_undo G V15 hD15) rfl oc_0 rfl (by decide) (by decide) rfl (Nat.le_of_ble_eq_true rfl) ?_
  rintro v16 V16 hU16; obtain ⟨rfl, hC16⟩ := und_yes hU16 (by decide)
  refine Ew.iconst hx dL_law_540 k_iconst_1 ?_
  refine Ew.icmp_ne_f hx (tgt := 557) dL_law_541 rfl (by decide) ?_
  refine Ew.aload_n hx dL_law_544 rfl ?_
  have hC17 : CR V16 (h 3) _ _ _ _ := hC16
  rw [e] at hC17
  refine Ew.callS (y' := mL_digest) hx dL_law_545 ml_RL_95 cf_L_digest cs_L_digest (ct_L_digest G V16 hC17) rfl (by decide) (by decide) rfl (Nat.le_of_ble_eq_true rfl) ?_
  rintro _ V9 ⟨rfl, h9⟩; subst V9
  refine Ew.lload_n hx dL_law_548 rfl ?_
  refine Ew.lcmp hx dL_law_549 ?_
  refine Ew.if_ne_f hx (tgt := 557) dL_law_550 rfl (lc_0 _) ?_
  exact hend _ _
set_option maxHeartbeats 4000000 in
set_option maxRecDepth 100000 in
theorem lt_end {G : GT} {C : CT} {V : Mm} (hx : Cx G mL_law 7 C) {s : Sv} {n z : Nat} {h : Nat → Sv} {v : Int32} (hL : LJ V s n z h 20) (hend : ∀ (V : Mm) (l : List (Option Value)), Ew G C V 553 l []) : Ew G C V 298 [some (.ref (xB G)), some (adr G 0), some (.int v), some (.int (nI 20)), none, none, none, none, none, none, none, none] [] := by
  have hC := hL.1.mono (show 30000 * ((20 : Nat) : Int) ≤ 600000 by decide)
  have hI := hL.2.1.mono (show 15000 * (((20 : Nat) : Int) + 1) ≤ 315000 by decide)
  obtain ⟨-, -, hr2, ht20, ⟨f0, f1⟩, hz1⟩ := hL
  have hW := hC.2.2.2.2.2.1.1
  have hz5 := hC.2.2.2.1
  have hz4 : szH (szH (szH (szH z))) = 5 := by
    rcases (show z = 1 ∨ z = 2 ∨ z = 3 ∨ z = 4 ∨ z = 5 by omega) with rfl | rfl | rfl | rfl | rfl <;> rfl
  have ht1 : tN (nxTake s (nt 1)) ≤ 20 := by
    unfold tN
    rw [tk_lo s (by decide)]
    exact ht20
  obtain ⟨q1, q2, q3⟩ := hi_3 hW
  refine lt_e1 hx hC hr2 ht20 f1 (fun V8 hC8 => ?_)
  refine lt_e2 hx hC8 (fun V9 hC9 => ?_)
  refine lt_e3 hx hC9 (iv_take hW hI) (by decide) ht1 (fun V11 hC11 => ?_)
  refine lt_e4 hx hC11 (q1.trans f0) q2 q3 (fun V12 s4 hC12 => ?_)
  rw [hz4] at hC12
  refine lt_e5 (z := 0) hx hC12 ?_ hend
  rfl
theorem ra_ok {s : Sv} {a b c : Nat} (ha : a ≤ 4000) (hb : 1 ≤ b ∧ b ≤ 20) (hc : 1 ≤ c ∧ c ≤ 500) (h : ¬ s 2 = 4) : cdRamp s (nI a) (nI b) (nI c) = 0 := by
  refine (cif_t ⟨?_, ?_, ?_⟩).trans (cif_f h)
  · rw [ie, ie, tn (by omega), tl_0, tl_4000]; omega
  · rw [ie, ie, tn (by omega), tl_1, tl_20]; omega
  · rw [ie, ie, tn (by omega), tl_1, tl_500]; omega
theorem nr_2 (s : Sv) (e b f : Int32) : nxRamp s e b f 2 = s 2 + 1 := upd_s _ _ _
theorem nr_0 (s : Sv) (e b f : Int32) : nxRamp s e b f 0 = s 0 := by
  unfold nxRamp
  rw [upd_n _ _ (by decide), upd_n _ _ (by omega), upd_n _ _ (by omega), upd_n _ _ (by omega)]
theorem iv_0 (M : Int) : IV s0 M := by
  have h1 : nrN s0 = 0 := by decide
  have h2 : npN s0 = 0 := by decide
  refine ⟨fun p hp => ?_, fun r D hr => ?_⟩
  · rw [h2] at hp; exact absurd hp (Nat.not_lt_zero p)
  · rw [h1] at hr; exact absurd hr (Nat.not_lt_zero r)
theorem lj_1 {V : Mm} {n z : Nat} {h : Nat → Sv} {e b f e2 b2 f2 : Int32} (hW : WF s0 0) (h1 : cdRamp s0 e b f = 0) (h2 : cdRamp (nxRamp s0 e b f) e2 b2 f2 = 0) (hC : CR V (nxRamp (nxRamp s0 e b f) e2 b2 f2) n z h 0) (hz : 1 ≤ z) : LJ V (nxRamp (nxRamp s0 e b f) e2 b2 f2) n z h 1 := by
  have k1 := so_ramp hW (iv_0 15000) h1
  have k2 := so_ramp (wf_ramp hW h1) k1.1 h2
  refine ⟨hC.mono (by decide), k2.1.mono (by decide), ?_, ?_, ⟨?_, ?_⟩, hz⟩
  · unfold nrN
    rw [nr_2, nr_2]
    decide
  · unfold tN
    rw [nr_0, nr_0]
    decide
  · rw [k2.2.2.2.1 _ (by decide), k1.2.2.2.1 _ (by decide)]
    rfl
  · rw [k2.2.2.2.1 _ (by decide), k1.2.2.2.1 _ (by decide)]
    rfl
set_option maxHeartbeats 4000000 in
set_option maxRecDepth 100000 in
theorem lt_beg {G : GT} {C : CT} {V : Mm} (hx : Cx G mL_law 7 C) {h : Nat → Sv} (hC : CR V s0 0 0 h 0) (hend : ∀ (V : Mm) (l : List (Option Value)), Ew G C V 553 l []) : Ew G C V 8 [some (.ref (xB G)), some (adr G 0), none, none, none, none, none, none, none, none, none, none] [] := by
  have hW := hC.2.2.2.2.2.1.1
  refine Ew.aload_n hx dL_law_8 rfl ?_
  refine Ew.iconst hx dL_law_9 k_iconst_0 ?_
  refine Ew.callS (y' := mL_cell) hx dL_law_10 ml_RL_91 cf_L_cell cs_L_cell (ct_L_cell G V (k := 0) (by decide)) rfl (by decide) (by decide) rfl (Nat.le_of_ble_eq_true rfl) ?_
  rintro _ V9 ⟨⟨v, rfl⟩, h9⟩; subst V9
  have b1 := lowN_lt v (show 0 < 300 by decide)
  have b2 := lowN_lt (shI v 9) (show 0 < 3 by decide)
  have b3 := lowN_lt (shI v 11) (show 0 < 80 by decide)
  have b4 := lowN_lt (shI v 5) (show 0 < 500 by decide)
  have b5 := lowN_lt (shI v 14) (show 0 < 80 by decide)
  have c1 : cdRamp s0 (nI (1600 + lowN v 300)) (nI (1 + lowN (shI v 9) 3)) (nI (1 + lowN (shI v 11) 80)) = 0 := ra_ok (by omega) (by omega) (by omega) (by decide)
  have c2 : cdRamp (nxRamp s0 (nI (1600 + lowN v 300)) (nI (1 + lowN (shI v 9) 3)) (nI (1 + lowN (shI v 11) 80))) (nI (1500 + lowN (shI v 5) 500)) (nI 2) (nI (1 + lowN (shI v 14) 80)) = 0 := ra_ok (by omega) (by decide) (by omega) (by rw [nr_2]; decide)
  refine Ew.istoreL_n hx dL_law_13 (by decide) rfl ?_
  refine Ew.aload_n hx dL_law_14 rfl ?_
  refine Ew.sipush hx dL_law_15 k_sipush_1600 ?_
  refine Ew.iload_n hx dL_law_18 rfl ?_
  refine Ew.sipush hx dL_law_19 k_sipush_300 ?_
  refine Ew.callS (y' := mL_low) hx dL_law_22 ml_RL_33 cf_L_low cs_L_low (ct_L_low G V _ (n := 300) (by decide) (by decide)) rfl (by decide) (by decide) rfl (Nat.le_of_ble_eq_true rfl) ?_
  rintro _ V9 ⟨rfl, h9⟩; subst V9
  refine Ew.iadd' hx dL_law_25 (nI_add 1600 _) ?_
  refine Ew.iconst hx dL_law_26 k_iconst_1 ?_
  refine Ew.iload_n hx dL_law_27 rfl ?_
  refine Ew.bipush hx dL_law_28 k_bipush_9 ?_
  refine Ew.ishr hx dL_law_30 ?_
  refine Ew.iconst hx dL_law_31 k_iconst_3 ?_
  refine Ew.callS (y' := mL_low) hx dL_law_32 ml_RL_33 cf_L_low cs_L_low (ct_L_low G V _ (n := 3) (by decide) (by decide)) rfl (by decide) (by decide) rfl (Nat.le_of_ble_eq_true rfl) ?_
  rintro _ V9 ⟨rfl, h9⟩; subst V9
  refine Ew.iadd' hx dL_law_35 (nI_add 1 _) ?_
  refine Ew.iconst hx dL_law_36 k_iconst_1 ?_
  refine Ew.iload_n hx dL_law_37 rfl ?_
  refine Ew.bipush hx dL_law_38 k_bipush_11 ?_
  refine Ew.ishr hx dL_law_40 ?_
  refine Ew.bipush hx dL_law_41 k_bipush_80 ?_
  refine Ew.callS (y' := mL_low) hx dL_law_43 ml_RL_33 cf_L_low cs_L_low (ct_L_low G V _ (n := 80) (by decide) (by decide)) rfl (by decide) (by decide) rfl (Nat.le_of_ble_eq_true rfl) ?_
  rintro _ V9 ⟨rfl, h9⟩; subst V9
  refine Ew.iadd' hx dL_law_46 (nI_add 1 _) ?_
  refine Ew.callV2 (y' := mX11_addRamp) hx dL_law_47 ml_RL_47 cf_X11_addRamp cv_X11_addRamp (ct_X11_addRamp G V hC (by decide) (by decide) (nI (1600 + lowN v 300)) (nI (1 + lowN (shI v 9) 3)) (nI (1 + lowN (shI v 11) 80))) rfl oc_0 rfl (by decide) (by decide) rfl (Nat.le_of_ble_eq_true rfl) ?_
  rintro v1 V1 hA1; obtain ⟨rfl, hC1⟩ := act_yes hA1 c1
  refine Ew.pop hx dL_law_50 rfl ?_
  refine Ew.aload_n hx dL_law_51 rfl ?_
  refine Ew.sipush hx dL_law_52 k_sipush_1500 ?_
  refine Ew.iload_n hx dL_law_55 rfl ?_
  refine Ew.iconst hx dL_law_56 k_iconst_5 ?_
  refine Ew.ishr hx dL_law_57 ?_
  refine Ew.sipush hx dL_law_58 k_sipush_500 ?_
  refine Ew.callS (y' := mL_low) hx dL_law_61 ml_RL_33 cf_L_low cs_L_low (ct_L_low G V1 _ (n := 500) (by decide) (by decide)) rfl (by decide) (by decide) rfl (Nat.le_of_ble_eq_true rfl) ?_
  rintro _ V9 ⟨rfl, h9⟩; subst V9
  refine Ew.iadd' hx dL_law_64 (nI_add 1500 _) ?_
  refine Ew.iconst hx dL_law_65 k_iconst_2 ?_
  refine Ew.iconst hx dL_law_66 k_iconst_1 ?_
  refine Ew.iload_n hx dL_law_67 rfl ?_
  refine Ew.bipush hx dL_law_68 k_bipush_14 ?_
  refine Ew.ishr hx dL_law_70 ?_
  refine Ew.bipush hx dL_law_71 k_bipush_80 ?_
  refine Ew.callS (y' := mL_low) hx dL_law_73 ml_RL_33 cf_L_low cs_L_low (ct_L_low G V1 _ (n := 80) (by decide) (by decide)) rfl (by decide) (by decide) rfl (Nat.le_of_ble_eq_true rfl) ?_
  rintro _ V9 ⟨rfl, h9⟩; subst V9
  refine Ew.iadd' hx dL_law_76 (nI_add 1 _) ?_
  refine Ew.callV2 (y' := mX11_addRamp) hx dL_law_77 ml_RL_47 cf_X11_addRamp cv_X11_addRamp (ct_X11_addRamp G V1 hC1 (by decide) (by decide) (nI (1500 + lowN (shI v 5) 500)) (nI 2) (nI (1 + lowN (shI v 14) 80))) rfl oc_0 rfl (by decide) (by decide) rfl (Nat.le_of_ble_eq_true rfl) ?_
  rintro v2 V2 hA2; obtain ⟨rfl, hC2⟩ := act_yes hA2 c2
  refine Ew.pop hx dL_law_80 rfl ?_
  refine Ew.iconst hx dL_law_81 k_iconst_1 ?_
  refine Ew.istoreL_n hx dL_law_82 (by decide) rfl ?_
  exact lt_main hx (fun V2 s2 n2 z2 h2 hL => lt_end hx hL hend) 19 1 rfl _ _ _ _ _ (lj_1 hW c1 c2 hC2 (by decide))
