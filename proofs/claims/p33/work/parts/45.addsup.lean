theorem ge_i {x : Int32} (h : 0 ≤ x.toInt) : 0 ≤ x := by
  rw [ie, tl_0]
  exact h
theorem lsub_5 (a b c d e : Value) (x5 x6 x7 x8 x9 x10 : Option Value) : lsub [some a, some b, some c, some d, some e, x5, x6, x7, none, none, none] [some a, some b, some c, some d, some e, x5, x6, x7, x8, x9, x10] := by
  rcases x5 with _ | _ <;> rcases x6 with _ | _ <;> rcases x7 with _ | _ <;> simp [lsub]
theorem pt_2 {u l : Nat} (h : u + l ≤ 30) (h1 : ¬ u + l = 0) : ¬ ptA (nI u) (nI l) < 0 ∧ ¬ 1000 < ptA (nI u) (nI l) ∧ (ptA (nI u) (nI l) = 1000 ↔ l = 0) := by
  have e : ptA (nI u) (nI l) = FP.f2i (FP.fdiv (FP.fmul fK (FP.i2f (nI u))) (FP.i2f (nI (u + l)))) := by
    unfold ptA
    rw [nI_add]
    exact cif_f (nI_ne0 (by omega) (by omega))
  have q := pt_1 (u + l) (by omega) u (by omega) (by omega)
  rw [e, il, il, iq, tl_0, show (1000 : Int32).toInt = 1000 from rfl]
  refine ⟨by omega, by omega, q.2.2.trans (by omega)⟩
theorem ptA_0 : ptA (nI 0) (nI 0) = -100009 := cif_t (by decide)
theorem pa_p {s : Sv} {B : Int} (hW : WF s B) {p : Nat} (hp : p < npN s) : anPart0 s (nI p) = ptA (pf s p 9) (pf s p 10) := by
  have hnp := hW.np
  refine (cif_t (pm_in hW hp)).trans ?_
  rw [nt_nI (by omega)]
theorem ex_in {s : Sv} {B : Int} (hW : WF s B) {p : Nat} (hp : p < npN s) {w : Int32} (hw : 0 ≤ w ∧ w ≤ 1) : (0 ≤ nI p ∧ nI p < s 3) ∧ (0 ≤ w ∧ w ≤ 1) := ⟨pm_in hW hp, hw⟩
theorem cl_p {s : Sv} {B : Int} (hW : WF s B) {p : Nat} (hp : p < npN s) : clI s (nI p) = nI (clN s p (laN s p + 1)) := by
  have hnp := hW.np
  unfold clI
  rw [nt_nI (by omega)]
theorem ex_0 {s : Sv} {B : Int} (hW : WF s B) {p : Nat} (hp : p < npN s) : anExpected s (nI p) 0 = nI (clN s p (laN s p + 1)) := (cif_t (ex_in hW hp (by decide))).trans ((cif_t rfl).trans (cl_p hW hp))
theorem ex_1 {s : Sv} {B : Int} (hW : WF s B) {p : Nat} (hp : p < npN s) : anExpected s (nI p) 1 = pf s p 7 + nI (clN s p (laN s p + 1)) * pf s p 4 := by
  have hnp := hW.np
  refine (cif_t (ex_in hW hp (by decide))).trans ((cif_f (by decide)).trans ?_)
  rw [cl_p hW hp, nt_nI (by omega)]
set_option maxHeartbeats 4000000 in
set_option maxRecDepth 100000 in
theorem lp_au1 {G : GT} {C : CT} {V : Mm} {s : Sv} {m z : Nat} {hh : Nat → Sv} {B M : Int} (hC : CR V s m z hh B) (hI : IV s M) {p : Nat} (hp : p < npN s) {a b c : Int32} {x5 x6 x7 : Int32} {Post : PT} (kk : Ew G C V 209 [some (adr G 0), some (.int (a)), some (.int (b)), some (.int (c)), some (.int (nI p)), some (.int x5), some (.int x6), some (.int x7), none, some (.int (nI 9)), none] []) (hx : Cx G mL_addsUp 5 C) (hq : Cq G (Post) C) : ∀ (n i : Nat), i + n = 9 → 5 ≤ i → Ew G C (V) 183 [some (adr G 0), some (.int a), some (.int b), some (.int c), some (.int (nI p)), some (.int x5), some (.int x6), some (.int x7), none, some (.int (nI i)), none] [] := by
  intro n
  induction n with
  | zero =>
    intro i hi hi5
    refine Ew.iload hx dL_addsUp_183 rfl ?_
    refine Ew.bipush hx dL_addsUp_185 k_bipush_9 ?_
    rw [show (9 : Int32) = nI 9 from rfl]
    refine Ew.icmp_ge_t hx (tgt := 209) dL_addsUp_187 rfl (nI_le (by omega) (by omega)) ?_
    rw [show i = 9 by omega]
    exact kk
  | succ n ih =>
    intro i hi hi5
    refine Ew.iload hx dL_addsUp_183 rfl ?_
    refine Ew.bipush hx dL_addsUp_185 k_bipush_9 ?_
    have hW := hC.2.2.2.2.2.1.1
    have hnp := hW.np
    have hnr := hW.nr
    obtain ⟨d, len, u, l, hd, hd30, hlen, hl1, hl30, hu, hl, hs0, hs1, h5, hcl, k5, k6, k7, k8⟩ := pe_all hW hI hp
    rw [show (9 : Int32) = nI 9 from rfl]
    refine Ew.icmp_ge_f hx (tgt := 209) dL_addsUp_187 rfl (nI_ge (by omega) (by omega)) ?_
    refine Ew.aload_n hx dL_addsUp_190 rfl ?_
    refine Ew.iload hx dL_addsUp_191 rfl ?_
    refine Ew.iload hx dL_addsUp_193 rfl ?_
    refine Ew.callV2 (y' := mX11_permit) hx dL_addsUp_195 ml_RL_27 cf_X11_permit cv_X11_permit (ct_X11_permit G V hC _ _) rfl oc_0 rfl (by decide) (by decide) rfl (Nat.le_of_ble_eq_true rfl) ?_
    rintro _ V9 ⟨rfl, h9⟩; subst V9
    rw [pm_k hW hp (k := i) (by omega)]
    refine Ew.if_ge_t hx (tgt := 203) dL_addsUp_198 rfl (ge_i (show 0 ≤ (pf s p i).toInt by rcases (show i = 5 ∨ i = 6 ∨ i = 7 ∨ i = 8 by omega) with rfl | rfl | rfl | rfl <;> assumption)) ?_
    refine Ew.iincL hx dL_addsUp_203 rfl (k_iinc_1 _) (by decide) rfl ?_
    refine Ew.goto hx (tgt := 183) dL_addsUp_206 rfl ?_
    rw [nI_1]
    exact ih (i + 1) (by omega) (by omega)
set_option maxHeartbeats 4000000 in
set_option maxRecDepth 100000 in
theorem au_D {G : GT} {C : CT} {V : Mm} (hx : Cx G mL_addsUp 5 C) {s : Sv} {m z : Nat} {hh : Nat → Sv} {B M : Int} (hC : CR V s m z hh B) (hI : IV s M) {p : Nat} (hp : p < npN s) {a b c : Int32} {x6 x7 x8 x9 : Option Value} (kk : Ew G C V 9 [some (adr G 0), some (.int (a + pf s p 5)), some (.int (b + pf s p 4 * dtc s p)), some (.int (c + b2i (0 < dtc s p))), some (.int (nI (p + 1))), none, none, none, none, none, none] []) : Ew G C V 346 [some (adr G 0), some (.int (a)), some (.int (b)), some (.int (c)), some (.int (nI p)), some (.int (dtc s p)), x6, x7, none, x8, x9] [] := by
  have hW := hC.2.2.2.2.2.1.1
  have hnp := hW.np
  have hnr := hW.nr
  refine Ew.iload_n hx dL_addsUp_346 rfl ?_
  refine Ew.aload_n hx dL_addsUp_347 rfl ?_
  refine Ew.iload hx dL_addsUp_348 rfl ?_
  refine Ew.iconst hx dL_addsUp_350 k_iconst_5 ?_
  refine Ew.callV2 (y' := mX11_permit) hx dL_addsUp_351 ml_RL_27 cf_X11_permit cv_X11_permit (ct_X11_permit G V hC _ _) rfl oc_0 rfl (by decide) (by decide) rfl (Nat.le_of_ble_eq_true rfl) ?_
  rintro _ V9 ⟨rfl, h9⟩; subst V9
  rw [show anPermit s (nI p) 5 = pf s p 5 from pm_k hW hp (k := 5) (by decide)]
  refine Ew.iadd hx dL_addsUp_354 ?_
  refine Ew.istoreL_n hx dL_addsUp_355 (by decide) rfl ?_
  refine Ew.iload_n hx dL_addsUp_356 rfl ?_
  refine Ew.aload_n hx dL_addsUp_357 rfl ?_
  refine Ew.iload hx dL_addsUp_358 rfl ?_
  refine Ew.iconst hx dL_addsUp_360 k_iconst_4 ?_
  refine Ew.callV2 (y' := mX11_permit) hx dL_addsUp_361 ml_RL_27 cf_X11_permit cv_X11_permit (ct_X11_permit G V hC _ _) rfl oc_0 rfl (by decide) (by decide) rfl (Nat.le_of_ble_eq_true rfl) ?_
  rintro _ V9 ⟨rfl, h9⟩; subst V9
  rw [show anPermit s (nI p) 4 = pf s p 4 from pm_k hW hp (k := 4) (by decide)]
  refine Ew.iload hx dL_addsUp_364 rfl ?_
  refine Ew.imul hx dL_addsUp_366 ?_
  refine Ew.iadd hx dL_addsUp_367 ?_
  refine Ew.istoreL_n hx dL_addsUp_368 (by decide) rfl ?_
  refine Ew.iload_n hx dL_addsUp_369 rfl ?_
  refine Ew.iload hx dL_addsUp_370 rfl ?_
  refine Ew.if_le hx (tgt := 379) dL_addsUp_372 rfl (fun h372 => ?_) (fun h372 => ?_)
  · have eb : b2i (0 < dtc s p) = 0 := b2i_f (fun q => by rw [il] at q; rw [ie] at h372; omega)
    refine Ew.iconst hx dL_addsUp_379 k_iconst_0 ?_
    refine Ew.iadd hx dL_addsUp_380 ?_
    refine Ew.istoreL_n hx dL_addsUp_381 (by decide) rfl ?_
    refine Ew.iincL hx dL_addsUp_382 rfl (k_iinc_1 _) (by decide) rfl ?_
    refine Ew.goto hx (tgt := 9) dL_addsUp_385 rfl ?_
    rw [nI_1]
    rw [eb] at kk
    refine Ew.wk ?_ kk
    exact ⟨rfl, rfl, rfl, rfl, rfl, trivial⟩
  · have eb : b2i (0 < dtc s p) = 1 := b2i_t (by rw [il]; rw [ie] at h372; omega)
    refine Ew.iconst hx dL_addsUp_375 k_iconst_1 ?_
    refine Ew.goto hx (tgt := 380) dL_addsUp_376 rfl ?_
    refine Ew.iadd hx dL_addsUp_380 ?_
    refine Ew.istoreL_n hx dL_addsUp_381 (by decide) rfl ?_
    refine Ew.iincL hx dL_addsUp_382 rfl (k_iinc_1 _) (by decide) rfl ?_
    refine Ew.goto hx (tgt := 9) dL_addsUp_385 rfl ?_
    rw [nI_1]
    rw [eb] at kk
    refine Ew.wk ?_ kk
    exact ⟨rfl, rfl, rfl, rfl, rfl, trivial⟩
set_option maxHeartbeats 4000000 in
set_option maxRecDepth 100000 in
theorem au_X {G : GT} {C : CT} {V : Mm} (hx : Cx G mL_addsUp 5 C) {s : Sv} {m z : Nat} {hh : Nat → Sv} {B M : Int} (hC : CR V s m z hh B) (hI : IV s M) {p : Nat} (hp : p < npN s) {a b c : Int32} {d : Nat} (hcl : clN s p (laN s p + 1) ≤ d) (hd30 : d ≤ 30) {x6 x7 x8 x9 : Option Value} (kk : Ew G C V 346 [some (adr G 0), some (.int (a)), some (.int (b)), some (.int (c)), some (.int (nI p)), some (.int (nI d)), x6, x7, none, x8, x9] []) : Ew G C V 298 [some (adr G 0), some (.int (a)), some (.int (b)), some (.int (c)), some (.int (nI p)), some (.int (nI d)), x6, x7, none, x8, x9] [] := by
  have hW := hC.2.2.2.2.2.1.1
  have hnp := hW.np
  have hnr := hW.nr
  refine Ew.aload_n hx dL_addsUp_298 rfl ?_
  refine Ew.iload hx dL_addsUp_299 rfl ?_
  refine Ew.iconst hx dL_addsUp_301 k_iconst_0 ?_
  refine Ew.callV2 (y' := mX11_expected) hx dL_addsUp_302 ml_RL_78 cf_X11_expected cv_X11_expected (ct_X11_expected G V hC _ _) rfl oc_0 rfl (by decide) (by decide) rfl (Nat.le_of_ble_eq_true rfl) ?_
  rintro _ V9 ⟨rfl, h9⟩; subst V9
  rw [ex_0 hW hp]
  refine Ew.iload hx dL_addsUp_305 rfl ?_
  refine Ew.icmp_gt_f hx (tgt := 344) dL_addsUp_307 rfl (nI_nlt hcl (by omega)) ?_
  refine Ew.aload_n hx dL_addsUp_310 rfl ?_
  refine Ew.iload hx dL_addsUp_311 rfl ?_
  refine Ew.iconst hx dL_addsUp_313 k_iconst_1 ?_
  refine Ew.callV2 (y' := mX11_expected) hx dL_addsUp_314 ml_RL_78 cf_X11_expected cv_X11_expected (ct_X11_expected G V hC _ _) rfl oc_0 rfl (by decide) (by decide) rfl (Nat.le_of_ble_eq_true rfl) ?_
  rintro _ V9 ⟨rfl, h9⟩; subst V9
  rw [ex_1 hW hp]
  refine Ew.aload_n hx dL_addsUp_317 rfl ?_
  refine Ew.iload hx dL_addsUp_318 rfl ?_
  refine Ew.bipush hx dL_addsUp_320 k_bipush_7 ?_
  refine Ew.callV2 (y' := mX11_permit) hx dL_addsUp_322 ml_RL_27 cf_X11_permit cv_X11_permit (ct_X11_permit G V hC _ _) rfl oc_0 rfl (by decide) (by decide) rfl (Nat.le_of_ble_eq_true rfl) ?_
  rintro _ V9 ⟨rfl, h9⟩; subst V9
  rw [show anPermit s (nI p) 7 = pf s p 7 from pm_k hW hp (k := 7) (by decide)]
  refine Ew.aload_n hx dL_addsUp_325 rfl ?_
  refine Ew.iload hx dL_addsUp_326 rfl ?_
  refine Ew.iconst hx dL_addsUp_328 k_iconst_0 ?_
  refine Ew.callV2 (y' := mX11_expected) hx dL_addsUp_329 ml_RL_78 cf_X11_expected cv_X11_expected (ct_X11_expected G V hC _ _) rfl oc_0 rfl (by decide) (by decide) rfl (Nat.le_of_ble_eq_true rfl) ?_
  rintro _ V9 ⟨rfl, h9⟩; subst V9
  rw [ex_0 hW hp]
  refine Ew.aload_n hx dL_addsUp_332 rfl ?_
  refine Ew.iload hx dL_addsUp_333 rfl ?_
  refine Ew.iconst hx dL_addsUp_335 k_iconst_4 ?_
  refine Ew.callV2 (y' := mX11_permit) hx dL_addsUp_336 ml_RL_27 cf_X11_permit cv_X11_permit (ct_X11_permit G V hC _ _) rfl oc_0 rfl (by decide) (by decide) rfl (Nat.le_of_ble_eq_true rfl) ?_
  rintro _ V9 ⟨rfl, h9⟩; subst V9
  rw [show anPermit s (nI p) 4 = pf s p 4 from pm_k hW hp (k := 4) (by decide)]
  refine Ew.imul hx dL_addsUp_339 ?_
  refine Ew.iadd hx dL_addsUp_340 ?_
  refine Ew.icmp_eq_t hx (tgt := 346) dL_addsUp_341 rfl (rfl) ?_
  exact kk
set_option maxHeartbeats 4000000 in
set_option maxRecDepth 100000 in
theorem au_C {G : GT} {C : CT} {V : Mm} (hx : Cx G mL_addsUp 5 C) {s : Sv} {m z : Nat} {hh : Nat → Sv} {B M : Int} (hC : CR V s m z hh B) (hI : IV s M) {p : Nat} (hp : p < npN s) {a b c : Int32} {u l : Nat} (hu : pf s p 9 = nI u) (hl : pf s p 10 = nI l) (hul : u + l ≤ 30) {x5 x6 x7 : Option Value} (kk : Ew G C V 298 [some (adr G 0), some (.int (a)), some (.int (b)), some (.int (c)), some (.int (nI p)), x5, x6, x7, none, none, none] []) : Ew G C V 209 [some (adr G 0), some (.int (a)), some (.int (b)), some (.int (c)), some (.int (nI p)), x5, x6, x7, none, some (.int (nI 9)), none] [] := by
  have hW := hC.2.2.2.2.2.1.1
  have hnp := hW.np
  have hnr := hW.nr
  refine Ew.aload_n hx dL_addsUp_209 rfl ?_
  refine Ew.iload hx dL_addsUp_210 rfl ?_
  refine Ew.bipush hx dL_addsUp_212 k_bipush_9 ?_
  refine Ew.callV2 (y' := mX11_permit) hx dL_addsUp_214 ml_RL_27 cf_X11_permit cv_X11_permit (ct_X11_permit G V hC _ _) rfl oc_0 rfl (by decide) (by decide) rfl (Nat.le_of_ble_eq_true rfl) ?_
  rintro _ V9 ⟨rfl, h9⟩; subst V9
  rw [show anPermit s (nI p) 9 = pf s p 9 from pm_k hW hp (k := 9) (by decide)]
  refine Ew.aload_n hx dL_addsUp_217 rfl ?_
  refine Ew.iload hx dL_addsUp_218 rfl ?_
  refine Ew.bipush hx dL_addsUp_220 k_bipush_10 ?_
  refine Ew.callV2 (y' := mX11_permit) hx dL_addsUp_222 ml_RL_27 cf_X11_permit cv_X11_permit (ct_X11_permit G V hC _ _) rfl oc_0 rfl (by decide) (by decide) rfl (Nat.le_of_ble_eq_true rfl) ?_
  rintro _ V9 ⟨rfl, h9⟩; subst V9
  rw [show anPermit s (nI p) 10 = pf s p 10 from pm_k hW hp (k := 10) (by decide)]
  rw [hu, hl]
  refine Ew.iadd' hx dL_addsUp_225 (nI_add u l) ?_
  refine Ew.istoreL hx dL_addsUp_226 (by decide) rfl ?_
  refine Ew.aload_n hx dL_addsUp_228 rfl ?_
  refine Ew.iload hx dL_addsUp_229 rfl ?_
  refine Ew.callV2 (y' := mX11_part) hx dL_addsUp_231 ml_RL_75 cf_X11_part cv_X11_part (ct_X11_part G V hC _) rfl oc_0 rfl (by decide) (by decide) rfl (Nat.le_of_ble_eq_true rfl) ?_
  rintro _ V9 ⟨rfl, h9⟩; subst V9
  rw [pa_p hW hp, hu, hl]
  refine Ew.istoreL hx dL_addsUp_234 (by decide) rfl ?_
  refine Ew.iload hx dL_addsUp_236 rfl ?_
  refine Ew.if_ne hx (tgt := 251) dL_addsUp_238 rfl (fun h238 => ?_) (fun h238 => ?_)
  · have pq := pt_2 (u := u) (l := l) hul (fun q => h238 (by rw [q]; rfl))
    refine Ew.iload hx dL_addsUp_251 rfl ?_
    refine Ew.if_lt_f hx (tgt := 296) dL_addsUp_253 rfl (pq.1) ?_
    refine Ew.iload hx dL_addsUp_256 rfl ?_
    refine Ew.sipush hx dL_addsUp_258 k_sipush_1000 ?_
    refine Ew.icmp_gt_f hx (tgt := 296) dL_addsUp_261 rfl (pq.2.1) ?_
    refine Ew.iload hx dL_addsUp_264 rfl ?_
    refine Ew.sipush hx dL_addsUp_266 k_sipush_1000 ?_
    refine Ew.icmp_ne hx (tgt := 276) dL_addsUp_269 rfl (fun h269 => ?_) (fun h269 => ?_)
    · have z1 : ¬ l = 0 := fun q => h269 (pq.2.2.mpr q)
      refine Ew.iconst hx dL_addsUp_276 k_iconst_0 ?_
      refine Ew.aload_n hx dL_addsUp_277 rfl ?_
      refine Ew.iload hx dL_addsUp_278 rfl ?_
      refine Ew.bipush hx dL_addsUp_280 k_bipush_10 ?_
      refine Ew.callV2 (y' := mX11_permit) hx dL_addsUp_282 ml_RL_27 cf_X11_permit cv_X11_permit (ct_X11_permit G V hC _ _) rfl oc_0 rfl (by decide) (by decide) rfl (Nat.le_of_ble_eq_true rfl) ?_
      rintro _ V9 ⟨rfl, h9⟩; subst V9
      rw [show anPermit s (nI p) 10 = pf s p 10 from pm_k hW hp (k := 10) (by decide)]
      rw [hl]
      refine Ew.if_ne hx (tgt := 292) dL_addsUp_285 rfl (fun h285 => ?_) (fun h285 => ?_)
      · have z2 : ¬ l = 0 := fun q => h285 (by rw [q]; rfl)
        refine Ew.iconst hx dL_addsUp_292 k_iconst_0 ?_
        refine Ew.icmp_eq_t hx (tgt := 298) dL_addsUp_293 rfl (by first | rfl | exact absurd z1 z2 | exact absurd z2 z1) ?_
        refine Ew.wk ?_ kk
        exact lsub_5 _ _ _ _ _ _ _ _ _ _ _
      · have z2 : l = 0 := by have q := h285; rw [iq, tn (by omega), tl_0] at q; omega
        refine Ew.iconst hx dL_addsUp_288 k_iconst_1 ?_
        refine Ew.goto hx (tgt := 293) dL_addsUp_289 rfl ?_
        refine Ew.icmp_eq_t hx (tgt := 298) dL_addsUp_293 rfl (by first | rfl | exact absurd z1 z2 | exact absurd z2 z1) ?_
        refine Ew.wk ?_ kk
        exact lsub_5 _ _ _ _ _ _ _ _ _ _ _
    · have z1 : l = 0 := pq.2.2.mp h269
      refine Ew.iconst hx dL_addsUp_272 k_iconst_1 ?_
      refine Ew.goto hx (tgt := 277) dL_addsUp_273 rfl ?_
      refine Ew.aload_n hx dL_addsUp_277 rfl ?_
      refine Ew.iload hx dL_addsUp_278 rfl ?_
      refine Ew.bipush hx dL_addsUp_280 k_bipush_10 ?_
      refine Ew.callV2 (y' := mX11_permit) hx dL_addsUp_282 ml_RL_27 cf_X11_permit cv_X11_permit (ct_X11_permit G V hC _ _) rfl oc_0 rfl (by decide) (by decide) rfl (Nat.le_of_ble_eq_true rfl) ?_
      rintro _ V9 ⟨rfl, h9⟩; subst V9
      rw [show anPermit s (nI p) 10 = pf s p 10 from pm_k hW hp (k := 10) (by decide)]
      rw [hl]
      refine Ew.if_ne hx (tgt := 292) dL_addsUp_285 rfl (fun h285 => ?_) (fun h285 => ?_)
      · have z2 : ¬ l = 0 := fun q => h285 (by rw [q]; rfl)
        refine Ew.iconst hx dL_addsUp_292 k_iconst_0 ?_
        refine Ew.icmp_eq_t hx (tgt := 298) dL_addsUp_293 rfl (by first | rfl | exact absurd z1 z2 | exact absurd z2 z1) ?_
        refine Ew.wk ?_ kk
        exact lsub_5 _ _ _ _ _ _ _ _ _ _ _
      · have z2 : l = 0 := by have q := h285; rw [iq, tn (by omega), tl_0] at q; omega
        refine Ew.iconst hx dL_addsUp_288 k_iconst_1 ?_
        refine Ew.goto hx (tgt := 293) dL_addsUp_289 rfl ?_
        refine Ew.icmp_eq_t hx (tgt := 298) dL_addsUp_293 rfl (by first | rfl | exact absurd z1 z2 | exact absurd z2 z1) ?_
        refine Ew.wk ?_ kk
        exact lsub_5 _ _ _ _ _ _ _ _ _ _ _
  · have z0 : u + l = 0 := by have q := h238; rw [iq, tn (by omega), tl_0] at q; omega
    refine Ew.iload hx dL_addsUp_241 rfl ?_
    refine Ew.ldc hx dL_addsUp_243 kn_RL_74 ?_
    refine Ew.icmp_eq_t hx (tgt := 298) dL_addsUp_245 rfl (by rw [show u = 0 by omega, show l = 0 by omega]; exact ptA_0) ?_
    refine Ew.wk ?_ kk
    exact lsub_5 _ _ _ _ _ _ _ _ _ _ _
set_option maxHeartbeats 4000000 in
set_option maxRecDepth 100000 in
theorem au_A2 {G : GT} {C : CT} {V : Mm} (hx : Cx G mL_addsUp 5 C) {s : Sv} {m z : Nat} {hh : Nat → Sv} {B M : Int} (hC : CR V s m z hh B) (hI : IV s M) {p : Nat} (hp : p < npN s) {a b c : Int32} {d len u l : Nat} (hd30 : d ≤ 30) (hl1 : 1 ≤ len) (hl30 : len ≤ 30) (hs0 : pf s p 11 = 0 → u + l + d = len) (hs1 : ¬ pf s p 11 = 0 → d = 0 ∧ u + l < len) (h5 : pf s p 5 = pf s p 6 + pf s p 7 + pf s p 8 + pf s p 4 * nI d) {x8 : Int32} (hx8 : (x8 = 0 ∧ pf s p 11 = 0) ∨ (x8 = 1 ∧ ¬ pf s p 11 = 0)) {x9 x10 : Option Value} (kk : Ew G C V 183 [some (adr G 0), some (.int (a)), some (.int (b)), some (.int (c)), some (.int (nI p)), some (.int (nI d)), some (.int (nI u + nI l + nI d)), some (.int (nI len)), none, some (.int (nI 5)), none] []) : Ew G C V 89 [some (adr G 0), some (.int (a)), some (.int (b)), some (.int (c)), some (.int (nI p)), some (.int (nI d)), some (.int (nI u + nI l + nI d)), some (.int (nI len)), some (.int x8), x9, x10] [] := by
  have hW := hC.2.2.2.2.2.1.1
  have hnp := hW.np
  have hnr := hW.nr
  refine Ew.aload_n hx dL_addsUp_89 rfl ?_
  refine Ew.iload hx dL_addsUp_90 rfl ?_
  refine Ew.iconst hx dL_addsUp_92 k_iconst_5 ?_
  refine Ew.callV2 (y' := mX11_permit) hx dL_addsUp_93 ml_RL_27 cf_X11_permit cv_X11_permit (ct_X11_permit G V hC _ _) rfl oc_0 rfl (by decide) (by decide) rfl (Nat.le_of_ble_eq_true rfl) ?_
  rintro _ V9 ⟨rfl, h9⟩; subst V9
  rw [show anPermit s (nI p) 5 = pf s p 5 from pm_k hW hp (k := 5) (by decide)]
  refine Ew.aload_n hx dL_addsUp_96 rfl ?_
  refine Ew.iload hx dL_addsUp_97 rfl ?_
  refine Ew.bipush hx dL_addsUp_99 k_bipush_6 ?_
  refine Ew.callV2 (y' := mX11_permit) hx dL_addsUp_101 ml_RL_27 cf_X11_permit cv_X11_permit (ct_X11_permit G V hC _ _) rfl oc_0 rfl (by decide) (by decide) rfl (Nat.le_of_ble_eq_true rfl) ?_
  rintro _ V9 ⟨rfl, h9⟩; subst V9
  rw [show anPermit s (nI p) 6 = pf s p 6 from pm_k hW hp (k := 6) (by decide)]
  refine Ew.aload_n hx dL_addsUp_104 rfl ?_
  refine Ew.iload hx dL_addsUp_105 rfl ?_
  refine Ew.bipush hx dL_addsUp_107 k_bipush_7 ?_
  refine Ew.callV2 (y' := mX11_permit) hx dL_addsUp_109 ml_RL_27 cf_X11_permit cv_X11_permit (ct_X11_permit G V hC _ _) rfl oc_0 rfl (by decide) (by decide) rfl (Nat.le_of_ble_eq_true rfl) ?_
  rintro _ V9 ⟨rfl, h9⟩; subst V9
  rw [show anPermit s (nI p) 7 = pf s p 7 from pm_k hW hp (k := 7) (by decide)]
  refine Ew.iadd hx dL_addsUp_112 ?_
  refine Ew.aload_n hx dL_addsUp_113 rfl ?_
  refine Ew.iload hx dL_addsUp_114 rfl ?_
  refine Ew.bipush hx dL_addsUp_116 k_bipush_8 ?_
  refine Ew.callV2 (y' := mX11_permit) hx dL_addsUp_118 ml_RL_27 cf_X11_permit cv_X11_permit (ct_X11_permit G V hC _ _) rfl oc_0 rfl (by decide) (by decide) rfl (Nat.le_of_ble_eq_true rfl) ?_
  rintro _ V9 ⟨rfl, h9⟩; subst V9
  rw [show anPermit s (nI p) 8 = pf s p 8 from pm_k hW hp (k := 8) (by decide)]
  refine Ew.iadd hx dL_addsUp_121 ?_
  refine Ew.aload_n hx dL_addsUp_122 rfl ?_
  refine Ew.iload hx dL_addsUp_123 rfl ?_
  refine Ew.iconst hx dL_addsUp_125 k_iconst_4 ?_
  refine Ew.callV2 (y' := mX11_permit) hx dL_addsUp_126 ml_RL_27 cf_X11_permit cv_X11_permit (ct_X11_permit G V hC _ _) rfl oc_0 rfl (by decide) (by decide) rfl (Nat.le_of_ble_eq_true rfl) ?_
  rintro _ V9 ⟨rfl, h9⟩; subst V9
  rw [show anPermit s (nI p) 4 = pf s p 4 from pm_k hW hp (k := 4) (by decide)]
  refine Ew.iload hx dL_addsUp_129 rfl ?_
  refine Ew.imul hx dL_addsUp_131 ?_
  refine Ew.iadd hx dL_addsUp_132 ?_
  refine Ew.icmp_ne_f hx (tgt := 149) dL_addsUp_133 rfl (h5) ?_
  refine Ew.iload hx dL_addsUp_136 rfl ?_
  refine Ew.iconst hx dL_addsUp_138 k_iconst_1 ?_
  refine Ew.icmp_lt_f hx (tgt := 149) dL_addsUp_139 rfl (fun q => by rw [il, tn (by omega), tl_1] at q; omega) ?_
  refine Ew.iload hx dL_addsUp_142 rfl ?_
  refine Ew.bipush hx dL_addsUp_144 k_bipush_30 ?_
  refine Ew.icmp_le_t hx (tgt := 151) dL_addsUp_146 rfl (by rw [ie, tn (by omega), tl_30]; omega) ?_
  refine Ew.iload hx dL_addsUp_151 rfl ?_
  refine Ew.if_eq hx (tgt := 171) dL_addsUp_153 rfl (fun h153 => ?_) (fun h153 => ?_)
  · have c0 : pf s p 11 = 0 := (hx8.resolve_right (fun q => by rw [q.1] at h153; exact absurd h153 (by decide))).2
    refine Ew.iload hx dL_addsUp_171 rfl ?_
    refine Ew.iload hx dL_addsUp_173 rfl ?_
    refine Ew.icmp_eq_t hx (tgt := 180) dL_addsUp_175 rfl (by rw [nI_add, nI_add, hs0 c0]) ?_
    refine Ew.iconst hx dL_addsUp_180 k_iconst_5 ?_
    refine Ew.istoreL hx dL_addsUp_181 (by decide) rfl ?_
    refine Ew.wk ?_ kk
    exact ⟨rfl, rfl, rfl, rfl, rfl, rfl, rfl, rfl, rfl, trivial⟩
  · have c1 : ¬ pf s p 11 = 0 := (hx8.resolve_left (fun q => h153 q.1)).2
    refine Ew.iload hx dL_addsUp_156 rfl ?_
    refine Ew.if_ne_f hx (tgt := 178) dL_addsUp_158 rfl (by rw [(hs1 c1).1]; rfl) ?_
    refine Ew.iload hx dL_addsUp_161 rfl ?_
    refine Ew.iload hx dL_addsUp_163 rfl ?_
    refine Ew.icmp_lt_t hx (tgt := 180) dL_addsUp_165 rfl (by have q := hs1 c1; rw [nI_add, nI_add, il, tn (by omega), tn (by omega)]; omega) ?_
    refine Ew.iconst hx dL_addsUp_180 k_iconst_5 ?_
    refine Ew.istoreL hx dL_addsUp_181 (by decide) rfl ?_
    refine Ew.wk ?_ kk
    exact ⟨rfl, rfl, rfl, rfl, rfl, rfl, rfl, rfl, rfl, trivial⟩
set_option maxHeartbeats 4000000 in
set_option maxRecDepth 100000 in
theorem au_A {G : GT} {C : CT} {V : Mm} (hx : Cx G mL_addsUp 5 C) {s : Sv} {m z : Nat} {hh : Nat → Sv} {B M : Int} (hC : CR V s m z hh B) (hI : IV s M) {p : Nat} (hp : p < npN s) {a b c : Int32} {d len u l : Nat} (hd : dtc s p = nI d) (hlen : pf s p 2 - pf s p 1 + 1 = nI len) (hu : pf s p 9 = nI u) (hl : pf s p 10 = nI l) {x5 x6 x7 x8 x9 x10 : Option Value} (kk : ∀ x : Int32, ((x = 0 ∧ pf s p 11 = 0) ∨ (x = 1 ∧ ¬ pf s p 11 = 0)) → Ew G C V 89 [some (adr G 0), some (.int (a)), some (.int (b)), some (.int (c)), some (.int (nI p)), some (.int (nI d)), some (.int (nI u + nI l + nI d)), some (.int (nI len)), some (.int x), x9, x10] []) : Ew G C V 19 [some (adr G 0), some (.int (a)), some (.int (b)), some (.int (c)), some (.int (nI p)), x5, x6, x7, x8, x9, x10] [] := by
  have hW := hC.2.2.2.2.2.1.1
  have hnp := hW.np
  have hnr := hW.nr
  refine Ew.aload_n hx dL_addsUp_19 rfl ?_
  refine Ew.iload hx dL_addsUp_20 rfl ?_
  refine Ew.bipush hx dL_addsUp_22 k_bipush_11 ?_
  refine Ew.callV2 (y' := mX11_permit) hx dL_addsUp_24 ml_RL_27 cf_X11_permit cv_X11_permit (ct_X11_permit G V hC _ _) rfl oc_0 rfl (by decide) (by decide) rfl (Nat.le_of_ble_eq_true rfl) ?_
  rintro _ V9 ⟨rfl, h9⟩; subst V9
  rw [pm_11 hW hp, hd]
  refine Ew.istoreL hx dL_addsUp_27 (by decide) rfl ?_
  refine Ew.aload_n hx dL_addsUp_29 rfl ?_
  refine Ew.iload hx dL_addsUp_30 rfl ?_
  refine Ew.bipush hx dL_addsUp_32 k_bipush_9 ?_
  refine Ew.callV2 (y' := mX11_permit) hx dL_addsUp_34 ml_RL_27 cf_X11_permit cv_X11_permit (ct_X11_permit G V hC _ _) rfl oc_0 rfl (by decide) (by decide) rfl (Nat.le_of_ble_eq_true rfl) ?_
  rintro _ V9 ⟨rfl, h9⟩; subst V9
  rw [show anPermit s (nI p) 9 = pf s p 9 from pm_k hW hp (k := 9) (by decide)]
  refine Ew.aload_n hx dL_addsUp_37 rfl ?_
  refine Ew.iload hx dL_addsUp_38 rfl ?_
  refine Ew.bipush hx dL_addsUp_40 k_bipush_10 ?_
  refine Ew.callV2 (y' := mX11_permit) hx dL_addsUp_42 ml_RL_27 cf_X11_permit cv_X11_permit (ct_X11_permit G V hC _ _) rfl oc_0 rfl (by decide) (by decide) rfl (Nat.le_of_ble_eq_true rfl) ?_
  rintro _ V9 ⟨rfl, h9⟩; subst V9
  rw [show anPermit s (nI p) 10 = pf s p 10 from pm_k hW hp (k := 10) (by decide)]
  rw [hu, hl]
  refine Ew.iadd hx dL_addsUp_45 ?_
  refine Ew.iload hx dL_addsUp_46 rfl ?_
  refine Ew.iadd hx dL_addsUp_48 ?_
  refine Ew.istoreL hx dL_addsUp_49 (by decide) rfl ?_
  refine Ew.aload_n hx dL_addsUp_51 rfl ?_
  refine Ew.iload hx dL_addsUp_52 rfl ?_
  refine Ew.iconst hx dL_addsUp_54 k_iconst_2 ?_
  refine Ew.callV2 (y' := mX11_permit) hx dL_addsUp_55 ml_RL_27 cf_X11_permit cv_X11_permit (ct_X11_permit G V hC _ _) rfl oc_0 rfl (by decide) (by decide) rfl (Nat.le_of_ble_eq_true rfl) ?_
  rintro _ V9 ⟨rfl, h9⟩; subst V9
  rw [show anPermit s (nI p) 2 = pf s p 2 from pm_k hW hp (k := 2) (by decide)]
  refine Ew.aload_n hx dL_addsUp_58 rfl ?_
  refine Ew.iload hx dL_addsUp_59 rfl ?_
  refine Ew.iconst hx dL_addsUp_61 k_iconst_1 ?_
  refine Ew.callV2 (y' := mX11_permit) hx dL_addsUp_62 ml_RL_27 cf_X11_permit cv_X11_permit (ct_X11_permit G V hC _ _) rfl oc_0 rfl (by decide) (by decide) rfl (Nat.le_of_ble_eq_true rfl) ?_
  rintro _ V9 ⟨rfl, h9⟩; subst V9
  rw [show anPermit s (nI p) 1 = pf s p 1 from pm_k hW hp (k := 1) (by decide)]
  refine Ew.isub hx dL_addsUp_65 ?_
  refine Ew.iconst hx dL_addsUp_66 k_iconst_1 ?_
  refine Ew.iadd' hx dL_addsUp_67 (hlen) ?_
  refine Ew.istoreL hx dL_addsUp_68 (by decide) rfl ?_
  refine Ew.aload_n hx dL_addsUp_70 rfl ?_
  refine Ew.iload hx dL_addsUp_71 rfl ?_
  refine Ew.bipush hx dL_addsUp_73 k_bipush_12 ?_
  refine Ew.callV2 (y' := mX11_permit) hx dL_addsUp_75 ml_RL_27 cf_X11_permit cv_X11_permit (ct_X11_permit G V hC _ _) rfl oc_0 rfl (by decide) (by decide) rfl (Nat.le_of_ble_eq_true rfl) ?_
  rintro _ V9 ⟨rfl, h9⟩; subst V9
  rw [pm_12 hW hp]
  refine Ew.iconst hx dL_addsUp_78 k_iconst_1 ?_
  refine Ew.icmp_ne hx (tgt := 86) dL_addsUp_79 rfl (fun h79 => ?_) (fun h79 => ?_)
  · have c0 : pf s p 11 = 0 := (hW.c01 hp).resolve_right h79
    refine Ew.iconst hx dL_addsUp_86 k_iconst_0 ?_
    refine Ew.istoreL hx dL_addsUp_87 (by decide) rfl ?_
    exact kk _ (by first | exact Or.inl ⟨rfl, c0⟩ | exact Or.inr ⟨rfl, c1⟩)
  · have c1 : ¬ pf s p 11 = 0 := fun q => by rw [h79] at q; exact absurd q (by decide)
    refine Ew.iconst hx dL_addsUp_82 k_iconst_1 ?_
    refine Ew.goto hx (tgt := 87) dL_addsUp_83 rfl ?_
    refine Ew.istoreL hx dL_addsUp_87 (by decide) rfl ?_
    exact kk _ (by first | exact Or.inl ⟨rfl, c0⟩ | exact Or.inr ⟨rfl, c1⟩)
theorem cDt_s (s : Sv) (p : Nat) : nI (cDt s p) + b2i (0 < dtc s p) = nI (cDt s (p + 1)) := by
  by_cases h : 0 < dtc s p
  · rw [b2i_t h, show cDt s (p + 1) = cDt s p + 1 from cntN_t h, nI_1]
  · rw [b2i_f h, show cDt s (p + 1) = cDt s p from cntN_f h, Int32.add_zero]
set_option maxHeartbeats 4000000 in
set_option maxRecDepth 100000 in
theorem lp_au {G : GT} {C : CT} {V : Mm} {s : Sv} {m z : Nat} {hh : Nat → Sv} {B M : Int} (hC : CR V s m z hh B) (hI : IV s M) {Post : PT} (kk : Ew G C V 388 [some (adr G 0), some (.int (sumN (fun p => pf s p 5) (npN s))), some (.int (sumN (fun p => pf s p 4 * dtc s p) (npN s))), some (.int (nI (cDt s (npN s)))), some (.int (nI (npN s))), none, none, none, none, none, none] []) (hx : Cx G mL_addsUp 5 C) (hq : Cq G (Post) C) : ∀ (n i : Nat), i + n = npN s → Ew G C (V) 9 [some (adr G 0), some (.int (sumN (fun p => pf s p 5) i)), some (.int (sumN (fun p => pf s p 4 * dtc s p) i)), some (.int (nI (cDt s i))), some (.int (nI i)), none, none, none, none, none, none] [] := by
  intro n
  induction n with
  | zero =>
    intro i hi
    refine Ew.iload hx dL_addsUp_9 rfl ?_
    refine Ew.aload_n hx dL_addsUp_11 rfl ?_
    refine Ew.iconst hx dL_addsUp_12 k_iconst_3 ?_
    refine Ew.callV2 (y' := mX11_count) hx dL_addsUp_13 ml_RL_12 cf_X11_count cv_X11_count (ct_X11_count G V hC _) rfl oc_0 rfl (by decide) (by decide) rfl (Nat.le_of_ble_eq_true rfl) ?_
    rintro _ V9 ⟨rfl, h9⟩; subst V9
    rw [cn_3]
    have hW := hC.2.2.2.2.2.1.1
    have hnp := hW.np
    have hnr := hW.nr
    rw [hnp.1]
    refine Ew.icmp_ge_t hx (tgt := 388) dL_addsUp_16 rfl (nI_le (by omega) (by omega)) ?_
    rw [show i = npN s by omega]
    exact kk
  | succ n ih =>
    intro i hi
    refine Ew.iload hx dL_addsUp_9 rfl ?_
    refine Ew.aload_n hx dL_addsUp_11 rfl ?_
    refine Ew.iconst hx dL_addsUp_12 k_iconst_3 ?_
    refine Ew.callV2 (y' := mX11_count) hx dL_addsUp_13 ml_RL_12 cf_X11_count cv_X11_count (ct_X11_count G V hC _) rfl oc_0 rfl (by decide) (by decide) rfl (Nat.le_of_ble_eq_true rfl) ?_
    rintro _ V9 ⟨rfl, h9⟩; subst V9
    rw [cn_3]
    have hW := hC.2.2.2.2.2.1.1
    have hnp := hW.np
    have hnr := hW.nr
    rw [hnp.1]
    refine Ew.icmp_ge_f hx (tgt := 388) dL_addsUp_16 rfl (nI_ge (by omega) (by omega)) ?_
    have hp : i < npN s := by omega
    obtain ⟨d, len, u, l, hd, hd30, hlen, hl1, hl30, hu, hl, hs0, hs1, h5, hcl, -⟩ := pe_all hW hI hp
    have hul : u + l ≤ 30 := by
      by_cases c0 : pf s i 11 = 0
      · have := hs0 c0; omega
      · have := hs1 c0; omega
    refine au_A hx hC hI hp hd hlen hu hl (fun x8 hx8 => ?_)
    refine au_A2 hx hC hI hp hd30 hl1 hl30 hs0 hs1 h5 hx8 ?_
    refine lp_au1 hC hI hp ?_ hx hq 4 5 rfl (Nat.le_refl 5)
    refine au_C hx hC hI hp hu hl hul ?_
    refine au_X hx hC hI hp hcl hd30 ?_
    rw [← hd]
    refine au_D hx hC hI hp ?_
    rw [cDt_s]
    exact ih (i + 1) (by omega)
set_option maxHeartbeats 4000000 in
set_option maxRecDepth 100000 in
theorem lp_au2 {G : GT} {C : CT} {V : Mm} {s : Sv} {m z : Nat} {hh : Nat → Sv} {B M : Int} (hC : CR V s m z hh B) (hI : IV s M) {a b c : Int32} {Post : PT} (kk : Ew G C V 458 [some (adr G 0), some (.int a), some (.int b), some (.int c), some (.int (sumN (fun r => nI (cTo s (nI r) (npN s))) (nrN s))), none, none, none, none, none, none] []) (hx : Cx G mL_addsUp 5 C) (hq : Cq G (Post) C) : ∀ (n i : Nat), i + n = nrN s → Ew G C (V) 394 [some (adr G 0), some (.int a), some (.int b), some (.int c), some (.int (sumN (fun r => nI (cTo s (nI r) (npN s))) i)), some (.int (nI i)), none, none, none, none, none] [] := by
  intro n
  induction n with
  | zero =>
    intro i hi
    refine Ew.iload hx dL_addsUp_394 rfl ?_
    refine Ew.aload_n hx dL_addsUp_396 rfl ?_
    refine Ew.iconst hx dL_addsUp_397 k_iconst_2 ?_
    refine Ew.callV2 (y' := mX11_count) hx dL_addsUp_398 ml_RL_12 cf_X11_count cv_X11_count (ct_X11_count G V hC _) rfl oc_0 rfl (by decide) (by decide) rfl (Nat.le_of_ble_eq_true rfl) ?_
    rintro _ V9 ⟨rfl, h9⟩; subst V9
    rw [cn_2]
    have hW := hC.2.2.2.2.2.1.1
    have hnp := hW.np
    have hnr := hW.nr
    rw [hnr.1]
    refine Ew.icmp_ge_t hx (tgt := 458) dL_addsUp_401 rfl (nI_le (by omega) (by omega)) ?_
    rw [show i = nrN s by omega]
    refine Ew.wk ?_ kk
    exact ⟨rfl, rfl, rfl, rfl, rfl, trivial⟩
  | succ n ih =>
    intro i hi
    refine Ew.iload hx dL_addsUp_394 rfl ?_
    refine Ew.aload_n hx dL_addsUp_396 rfl ?_
    refine Ew.iconst hx dL_addsUp_397 k_iconst_2 ?_
    refine Ew.callV2 (y' := mX11_count) hx dL_addsUp_398 ml_RL_12 cf_X11_count cv_X11_count (ct_X11_count G V hC _) rfl oc_0 rfl (by decide) (by decide) rfl (Nat.le_of_ble_eq_true rfl) ?_
    rintro _ V9 ⟨rfl, h9⟩; subst V9
    rw [cn_2]
    have hW := hC.2.2.2.2.2.1.1
    have hnp := hW.np
    have hnr := hW.nr
    rw [hnr.1]
    refine Ew.icmp_ge_f hx (tgt := 458) dL_addsUp_401 rfl (nI_ge (by omega) (by omega)) ?_
    have hr : i < nrN s := by omega
    have ht := hW.t
    have q1 := hI.2 i (tN s) hr (Nat.le_refl _) ht.2
    have q2 := on_to hW (nI i)
    have q3 : cTo s (nI i) (npN s) ≤ npN s := cntN_le _ _
    refine Ew.iload hx dL_addsUp_404 rfl ?_
    refine Ew.aload_n hx dL_addsUp_406 rfl ?_
    refine Ew.iload hx dL_addsUp_407 rfl ?_
    refine Ew.iconst hx dL_addsUp_409 k_iconst_3 ?_
    refine Ew.callV2 (y' := mX11_ramp) hx dL_addsUp_410 ml_RL_23 cf_X11_ramp cv_X11_ramp (ct_X11_ramp G V hC _ _) rfl oc_0 rfl (by decide) (by decide) rfl (Nat.le_of_ble_eq_true rfl) ?_
    rintro _ V9 ⟨rfl, h9⟩; subst V9
    rw [rm_3 hW hr]
    refine Ew.iadd hx dL_addsUp_413 ?_
    refine Ew.istoreL hx dL_addsUp_414 (by decide) rfl ?_
    refine Ew.aload_n hx dL_addsUp_416 rfl ?_
    refine Ew.iload hx dL_addsUp_417 rfl ?_
    refine Ew.iconst hx dL_addsUp_419 k_iconst_4 ?_
    refine Ew.callV2 (y' := mX11_ramp) hx dL_addsUp_420 ml_RL_23 cf_X11_ramp cv_X11_ramp (ct_X11_ramp G V hC _ _) rfl oc_0 rfl (by decide) (by decide) rfl (Nat.le_of_ble_eq_true rfl) ?_
    rintro _ V9 ⟨rfl, h9⟩; subst V9
    rw [rm_4 hW hr]
    refine Ew.aload_n hx dL_addsUp_423 rfl ?_
    refine Ew.iload hx dL_addsUp_424 rfl ?_
    refine Ew.iconst hx dL_addsUp_426 k_iconst_1 ?_
    refine Ew.callV2 (y' := mX11_ramp) hx dL_addsUp_427 ml_RL_23 cf_X11_ramp cv_X11_ramp (ct_X11_ramp G V hC _ _) rfl oc_0 rfl (by decide) (by decide) rfl (Nat.le_of_ble_eq_true rfl) ?_
    rintro _ V9 ⟨rfl, h9⟩; subst V9
    rw [rm_1 hW hr]
    refine Ew.icmp_gt_f hx (tgt := 450) dL_addsUp_430 rfl (fun q => by rw [il, tn (by omega)] at q; omega) ?_
    refine Ew.aload_n hx dL_addsUp_433 rfl ?_
    refine Ew.iload hx dL_addsUp_434 rfl ?_
    refine Ew.iconst hx dL_addsUp_436 k_iconst_4 ?_
    refine Ew.callV2 (y' := mX11_ramp) hx dL_addsUp_437 ml_RL_23 cf_X11_ramp cv_X11_ramp (ct_X11_ramp G V hC _ _) rfl oc_0 rfl (by decide) (by decide) rfl (Nat.le_of_ble_eq_true rfl) ?_
    rintro _ V9 ⟨rfl, h9⟩; subst V9
    rw [rm_4 hW hr]
    refine Ew.aload_n hx dL_addsUp_440 rfl ?_
    refine Ew.iload hx dL_addsUp_441 rfl ?_
    refine Ew.iconst hx dL_addsUp_443 k_iconst_3 ?_
    refine Ew.callV2 (y' := mX11_ramp) hx dL_addsUp_444 ml_RL_23 cf_X11_ramp cv_X11_ramp (ct_X11_ramp G V hC _ _) rfl oc_0 rfl (by decide) (by decide) rfl (Nat.le_of_ble_eq_true rfl) ?_
    rintro _ V9 ⟨rfl, h9⟩; subst V9
    rw [rm_3 hW hr]
    refine Ew.icmp_le_t hx (tgt := 452) dL_addsUp_447 rfl (nI_le q2 (by omega)) ?_
    refine Ew.iincL hx dL_addsUp_452 rfl (k_iinc_1 _) (by decide) rfl ?_
    refine Ew.goto hx (tgt := 394) dL_addsUp_455 rfl ?_
    rw [nI_1]
    exact ih (i + 1) (by omega)
set_option maxHeartbeats 4000000 in
set_option maxRecDepth 100000 in
theorem ct_L_addsUp (G : GT) (V : Mm) {s : Sv} {m z : Nat} {hh : Nat → Sv} {B M : Int} (hC : CR V s m z hh B) (hI : IV s M) : Ct G mL_addsUp 5 [adr G 0] (V) (Ri 1 V) := by
  refine Ct.of cf_L_addsUp (List.forall_mem_cons.mpr ⟨rfl, fun _ h => absurd h List.not_mem_nil⟩) (Nat.le_of_ble_eq_true rfl) (l0 := [some (adr G 0), none, none, none, none, none, none, none, none, none, none]) rfl (fun C hx hq => ?_)
  refine Ew.iconst hx dL_addsUp_0 k_iconst_0 ?_
  refine Ew.istoreL_n hx dL_addsUp_1 (by decide) rfl ?_
  refine Ew.iconst hx dL_addsUp_2 k_iconst_0 ?_
  refine Ew.istoreL_n hx dL_addsUp_3 (by decide) rfl ?_
  refine Ew.iconst hx dL_addsUp_4 k_iconst_0 ?_
  refine Ew.istoreL_n hx dL_addsUp_5 (by decide) rfl ?_
  refine Ew.iconst hx dL_addsUp_6 k_iconst_0 ?_
  refine Ew.istoreL hx dL_addsUp_7 (by decide) rfl ?_
  refine lp_au hC hI ?_ hx hq (npN s) 0 (Nat.zero_add _)
  refine Ew.iconst hx dL_addsUp_388 k_iconst_0 ?_
  refine Ew.istoreL hx dL_addsUp_389 (by decide) rfl ?_
  refine Ew.iconst hx dL_addsUp_391 k_iconst_0 ?_
  refine Ew.istoreL hx dL_addsUp_392 (by decide) rfl ?_
  refine lp_au2 hC hI ?_ hx hq (nrN s) 0 (Nat.zero_add _)
  have hW := hC.2.2.2.2.2.1.1
  refine Ew.iload hx dL_addsUp_458 rfl ?_
  refine Ew.iload_n hx dL_addsUp_460 rfl ?_
  refine Ew.icmp_ne_f hx (tgt := 526) dL_addsUp_461 rfl (cTo_sum hW (npN s) (Nat.le_refl _)) ?_
  refine Ew.iload_n hx dL_addsUp_464 rfl ?_
  refine Ew.aload_n hx dL_addsUp_465 rfl ?_
  refine Ew.iconst hx dL_addsUp_466 k_iconst_4 ?_
  refine Ew.callV2 (y' := mX11_count) hx dL_addsUp_467 ml_RL_12 cf_X11_count cv_X11_count (ct_X11_count G V hC _) rfl oc_0 rfl (by decide) (by decide) rfl (Nat.le_of_ble_eq_true rfl) ?_
  rintro _ V9 ⟨rfl, h9⟩; subst V9
  rw [cn_4]
  refine Ew.icmp_ne_f hx (tgt := 526) dL_addsUp_470 rfl (rfl) ?_
  refine Ew.iload_n hx dL_addsUp_473 rfl ?_
  refine Ew.aload_n hx dL_addsUp_474 rfl ?_
  refine Ew.iconst hx dL_addsUp_475 k_iconst_0 ?_
  refine Ew.callV2 (y' := mX11_money) hx dL_addsUp_476 ml_RL_20 cf_X11_money cv_X11_money (ct_X11_money G V hC _) rfl oc_0 rfl (by decide) (by decide) rfl (Nat.le_of_ble_eq_true rfl) ?_
  rintro _ V9 ⟨rfl, h9⟩; subst V9
  rw [show anMoney s 0 = sumN (fun p => pf s p 5) (npN s) from mo_k s (k := 0) (by decide)]
  refine Ew.icmp_ne_f hx (tgt := 526) dL_addsUp_479 rfl (rfl) ?_
  refine Ew.iload_n hx dL_addsUp_482 rfl ?_
  refine Ew.aload_n hx dL_addsUp_483 rfl ?_
  refine Ew.iconst hx dL_addsUp_484 k_iconst_4 ?_
  refine Ew.callV2 (y' := mX11_money) hx dL_addsUp_485 ml_RL_20 cf_X11_money cv_X11_money (ct_X11_money G V hC _) rfl oc_0 rfl (by decide) (by decide) rfl (Nat.le_of_ble_eq_true rfl) ?_
  rintro _ V9 ⟨rfl, h9⟩; subst V9
  rw [mo_4]
  refine Ew.icmp_ne_f hx (tgt := 526) dL_addsUp_488 rfl (rfl) ?_
  refine Ew.aload_n hx dL_addsUp_491 rfl ?_
  refine Ew.iconst hx dL_addsUp_492 k_iconst_0 ?_
  refine Ew.callV2 (y' := mX11_money) hx dL_addsUp_493 ml_RL_20 cf_X11_money cv_X11_money (ct_X11_money G V hC _) rfl oc_0 rfl (by decide) (by decide) rfl (Nat.le_of_ble_eq_true rfl) ?_
  rintro _ V9 ⟨rfl, h9⟩; subst V9
  rw [show anMoney s 0 = sumN (fun p => pf s p 5) (npN s) from mo_k s (k := 0) (by decide)]
  refine Ew.aload_n hx dL_addsUp_496 rfl ?_
  refine Ew.iconst hx dL_addsUp_497 k_iconst_1 ?_
  refine Ew.callV2 (y' := mX11_money) hx dL_addsUp_498 ml_RL_20 cf_X11_money cv_X11_money (ct_X11_money G V hC _) rfl oc_0 rfl (by decide) (by decide) rfl (Nat.le_of_ble_eq_true rfl) ?_
  rintro _ V9 ⟨rfl, h9⟩; subst V9
  rw [show anMoney s 1 = sumN (fun p => pf s p 6) (npN s) from mo_k s (k := 1) (by decide)]
  refine Ew.aload_n hx dL_addsUp_501 rfl ?_
  refine Ew.iconst hx dL_addsUp_502 k_iconst_2 ?_
  refine Ew.callV2 (y' := mX11_money) hx dL_addsUp_503 ml_RL_20 cf_X11_money cv_X11_money (ct_X11_money G V hC _) rfl oc_0 rfl (by decide) (by decide) rfl (Nat.le_of_ble_eq_true rfl) ?_
  rintro _ V9 ⟨rfl, h9⟩; subst V9
  rw [show anMoney s 2 = sumN (fun p => pf s p 7) (npN s) from mo_k s (k := 2) (by decide)]
  refine Ew.iadd hx dL_addsUp_506 ?_
  refine Ew.aload_n hx dL_addsUp_507 rfl ?_
  refine Ew.iconst hx dL_addsUp_508 k_iconst_3 ?_
  refine Ew.callV2 (y' := mX11_money) hx dL_addsUp_509 ml_RL_20 cf_X11_money cv_X11_money (ct_X11_money G V hC _) rfl oc_0 rfl (by decide) (by decide) rfl (Nat.le_of_ble_eq_true rfl) ?_
  rintro _ V9 ⟨rfl, h9⟩; subst V9
  rw [show anMoney s 3 = sumN (fun p => pf s p 8) (npN s) from mo_k s (k := 3) (by decide)]
  refine Ew.iadd hx dL_addsUp_512 ?_
  refine Ew.aload_n hx dL_addsUp_513 rfl ?_
  refine Ew.iconst hx dL_addsUp_514 k_iconst_4 ?_
  refine Ew.callV2 (y' := mX11_money) hx dL_addsUp_515 ml_RL_20 cf_X11_money cv_X11_money (ct_X11_money G V hC _) rfl oc_0 rfl (by decide) (by decide) rfl (Nat.le_of_ble_eq_true rfl) ?_
  rintro _ V9 ⟨rfl, h9⟩; subst V9
  rw [mo_4]
  refine Ew.iadd hx dL_addsUp_518 ?_
  refine Ew.icmp_ne_f hx (tgt := 526) dL_addsUp_519 rfl (sum5 hW hI (npN s) (Nat.le_refl _)) ?_
  refine Ew.iconst hx dL_addsUp_522 k_iconst_1 ?_
  refine Ew.goto hx (tgt := 527) dL_addsUp_523 rfl ?_
  refine Ew.bret hx hq dL_addsUp_527 rfl (by first | exact b2i_01 _ | decide) ?_
  exact ⟨rfl, rfl⟩
