/-- what the law's loop keeps, ahead of its i-th step -/
def LJ (V : Mm) (s : Sv) (n z : Nat) (h : Nat → Sv) (i : Nat) : Prop := CR V s n z h (30000 * (i : Int)) ∧ IV s (15000 * ((i : Int) + 1)) ∧ 2 ≤ nrN s ∧ tN s ≤ i ∧ (s 193 = 0 ∧ s 387 = 0) ∧ 1 ≤ z
theorem LJ.up {V : Mm} {s : Sv} {n z : Nat} {h : Nat → Sv} {i : Nat} (hL : LJ V s n z h i) : LJ V s n z h (i + 1) := by
  obtain ⟨h1, h2, h3, h4, h5⟩ := hL
  exact ⟨h1.mono (by omega), h2.mono (by omega), h3, by omega, h5⟩
theorem act_two {V V9 : Mm} {s s' : Sv} {n z : Nat} {h : Nat → Sv} {B B' : Int} {c a x : Int32} (hA : Act V s n z h B B' c a s' (some (.int x)) V9) : (c < 0 ∧ x = c ∧ CR V9 s n z h B) ∨ (c = 0 ∧ x = a ∧ CR V9 s' (nxH n) (szH z) (psh s h) B') := by
  rcases hA.2 with ⟨h1, h2, h3⟩ | ⟨h1, h2, h3⟩
  · cases h2; exact Or.inl ⟨h1, rfl, h3⟩
  · cases h2; exact Or.inr ⟨h1, rfl, h3⟩
theorem lerr_of {c : Int32} (h : cdE c) (hc : c < 0) : lerr c := by
  rcases h with e | e | e | e
  · rw [e] at hc; exact absurd hc (by decide)
  · rw [e]; unfold lerr; decide
  · rw [e]; unfold lerr; decide
  · rw [e]; unfold lerr; decide
theorem nlerr {a : Int32} (h : -100000 ≤ a.toInt) : ¬ lerr a := by
  intro q
  have q1 := q.1
  rw [ie, tl_m100001] at q1
  omega
theorem sz_1 {z : Nat} (h : z ≤ 5) : 1 ≤ szH z ∧ szH z ≤ 5 := by
  unfold szH
  split <;> omega
theorem lc_0 (x : Int64) : lg_cmp x x = 0 := (lg_cmp_eq x x).mpr rfl
theorem LJ.next {V : Mm} {s s' : Sv} {n z n2 z2 : Nat} {h h2 : Nat → Sv} {i : Nat} {a : Int32} (hL : LJ V s n z h i) {V2 : Mm} (hC : CR V2 s' n2 z2 h2 (30000 * ((i : Int) + 1))) (hS : SOK s s' (15000 * ((i : Int) + 1) + 15000) a) (hz : 1 ≤ z2) : LJ V2 s' n2 z2 h2 (i + 1) := by
  obtain ⟨h1, h2, h3, h4, h5, h6⟩ := hL
  obtain ⟨q1, q2, q3, q4, -⟩ := hS
  refine ⟨hC.mono ?_, q1.mono ?_, by omega, by omega, ⟨by rw [q4 _ (by decide)]; exact h5.1, by rw [q4 _ (by decide)]; exact h5.2⟩, hz⟩
  · show 30000 * ((i : Int) + 1) ≤ 30000 * ((i + 1 : Nat) : Int)
    omega
  · show _ ≤ 15000 * (((i + 1 : Nat) : Int) + 1)
    omega
set_option maxHeartbeats 4000000 in
set_option maxRecDepth 100000 in
theorem lt_283 {G : GT} {C : CT} {V : Mm} (hx : Cx G mL_law 7 C) {s : Sv} {n z : Nat} {h : Nat → Sv} {i : Nat} {v w : Int32} {x4 x6 x8 x9 x10 x11 : Option Value} (hL : LJ V s n z h (i + 1)) (kk : ∀ (V2 : Mm) (s2 : Sv) (n2 z2 : Nat) (h2 : Nat → Sv), LJ V2 s2 n2 z2 h2 (i + 1) → Ew G C V2 83 [some (.ref (xB G)), some (adr G 0), some (.int v), some (.int (nI (i + 1))), none, none, none, none, none, none, none, none] []) : Ew G C V 283 [some (.ref (xB G)), some (adr G 0), some (.int v), some (.int (nI i)), x4, some (.int w), x6, none, x8, x9, x10, x11] [] := by
  refine Ew.aload_n hx dL_law_283 rfl ?_
  refine Ew.callS (y' := mL_addsUp) hx dL_law_284 ml_RL_111 cf_L_addsUp cs_L_addsUp (ct_L_addsUp G V hL.1 hL.2.1) rfl (by decide) (by decide) rfl (Nat.le_of_ble_eq_true rfl) ?_
  rintro _ V9 ⟨rfl, h9⟩; subst V9
  refine Ew.if_ne_t hx (tgt := 292) dL_law_287 rfl (by decide) ?_
  refine Ew.iincL hx dL_law_292 rfl (k_iinc_1 _) (by decide) rfl ?_
  refine Ew.goto hx (tgt := 83) dL_law_295 rfl ?_
  rw [nI_1]
  refine Ew.wk ?_ (kk _ _ _ _ _ hL)
  exact ⟨rfl, rfl, rfl, rfl, trivial⟩
set_option maxHeartbeats 4000000 in
set_option maxRecDepth 100000 in
theorem lt_e {G : GT} {C : CT} {V : Mm} (hx : Cx G mL_law 7 C) {s : Sv} {n z : Nat} {h : Nat → Sv} {i : Nat} {v w c : Int32} {x4 : Option Value} (hL : LJ V s n z h i) (hc : lerr c) (kk : ∀ (V2 : Mm) (s2 : Sv) (n2 z2 : Nat) (h2 : Nat → Sv), LJ V2 s2 n2 z2 h2 (i + 1) → Ew G C V2 83 [some (.ref (xB G)), some (adr G 0), some (.int v), some (.int (nI (i + 1))), none, none, none, none, none, none, none, none] []) : Ew G C V 141 [some (.ref (xB G)), some (adr G 0), some (.int v), some (.int (nI i)), x4, some (.int w), some (.long (dgS s)), none, some (.int (anMoney s 2)), some (.int (anMoney s 5)), none, none] [.int c] := by
  refine Ew.istoreL hx dL_law_141 (by decide) rfl ?_
  refine Ew.iload hx dL_law_143 rfl ?_
  refine Ew.callS (y' := mL_isError) hx dL_law_145 ml_RL_103 cf_L_isError cs_L_isError (ct_L_isError G V _) rfl (by decide) (by decide) rfl (Nat.le_of_ble_eq_true rfl) ?_
  rintro _ V9 ⟨rfl, h9⟩; subst V9
  rw [b2i_t (hc)]
  refine Ew.if_eq_f hx (tgt := 163) dL_law_148 rfl (by decide) ?_
  refine Ew.aload_n hx dL_law_151 rfl ?_
  refine Ew.callS (y' := mL_digest) hx dL_law_152 ml_RL_95 cf_L_digest cs_L_digest (ct_L_digest G V hL.1) rfl (by decide) (by decide) rfl (Nat.le_of_ble_eq_true rfl) ?_
  rintro _ V9 ⟨rfl, h9⟩; subst V9
  refine Ew.lload hx dL_law_155 rfl ?_
  refine Ew.lcmp hx dL_law_157 ?_
  refine Ew.if_eq_t hx (tgt := 163) dL_law_158 rfl (lc_0 _) ?_
  refine Ew.iload hx dL_law_163 rfl ?_
  refine Ew.callS (y' := mL_isError) hx dL_law_165 ml_RL_103 cf_L_isError cs_L_isError (ct_L_isError G V _) rfl (by decide) (by decide) rfl (Nat.le_of_ble_eq_true rfl) ?_
  rintro _ V9 ⟨rfl, h9⟩; subst V9
  rw [b2i_t (hc)]
  refine Ew.if_ne_t hx (tgt := 206) dL_law_168 rfl (by decide) ?_
  refine Ew.iload hx dL_law_206 rfl ?_
  refine Ew.bipush hx dL_law_208 k_bipush_15 ?_
  refine Ew.iand hx dL_law_210 ?_
  refine Ew.istoreL hx dL_law_211 (by decide) rfl ?_
  refine Ew.iload hx dL_law_213 rfl ?_
  refine Ew.callS (y' := mL_isError) hx dL_law_215 ml_RL_103 cf_L_isError cs_L_isError (ct_L_isError G V _) rfl (by decide) (by decide) rfl (Nat.le_of_ble_eq_true rfl) ?_
  rintro _ V9 ⟨rfl, h9⟩; subst V9
  rw [b2i_t (hc)]
  refine Ew.if_ne_t hx (tgt := 283) dL_law_218 rfl (by decide) ?_
  exact lt_283 hx (hL.up) kk
set_option maxHeartbeats 4000000 in
set_option maxRecDepth 100000 in
theorem lt_206 {G : GT} {C : CT} {V : Mm} (hx : Cx G mL_law 7 C) {s : Sv} {n z : Nat} {h : Nat → Sv} {i : Nat} {v w a : Int32} {s0 : Sv} {x4 x6 : Option Value} {B : Int} (hC : CR V s n z h B) (hL : LJ V s n z h (i + 1)) (ha : ¬ lerr a) (m9 : kiN w = 9 → anMoney s 2 = anMoney s0 2 + a) (m10 : kiN w = 10 → anMoney s 2 = anMoney s0 2 - a) (m11 : kiN w = 11 → anMoney s 5 = anMoney s0 5 + a) (kk : ∀ (V2 : Mm) (s2 : Sv) (n2 z2 : Nat) (h2 : Nat → Sv), LJ V2 s2 n2 z2 h2 (i + 1) → Ew G C V2 83 [some (.ref (xB G)), some (adr G 0), some (.int v), some (.int (nI (i + 1))), none, none, none, none, none, none, none, none] []) : Ew G C V 206 [some (.ref (xB G)), some (adr G 0), some (.int v), some (.int (nI i)), x4, some (.int w), x6, none, some (.int (anMoney s0 2)), some (.int (anMoney s0 5)), some (.int a), none] [] := by
  have hk16 := Nat.mod_lt w.toBitVec.toNat (show 0 < 2 ^ 4 by decide)
  have hk15 : kiN w < 2 ^ 4 := hk16
  refine Ew.iload hx dL_law_206 rfl ?_
  refine Ew.bipush hx dL_law_208 k_bipush_15 ?_
  refine Ew.iand' hx dL_law_210 (kin w) ?_
  refine Ew.istoreL hx dL_law_211 (by decide) rfl ?_
  refine Ew.iload hx dL_law_213 rfl ?_
  refine Ew.callS (y' := mL_isError) hx dL_law_215 ml_RL_103 cf_L_isError cs_L_isError (ct_L_isError G V _) rfl (by decide) (by decide) rfl (Nat.le_of_ble_eq_true rfl) ?_
  rintro _ V9 ⟨rfl, h9⟩; subst V9
  rw [b2i_f (ha)]
  refine Ew.if_ne_f hx (tgt := 283) dL_law_218 rfl (by decide) ?_
  refine Ew.iload hx dL_law_221 rfl ?_
  refine Ew.bipush hx dL_law_223 k_bipush_9 ?_
  refine Ew.icmp_ne hx (tgt := 241) dL_law_225 rfl (fun h225 => ?_) (fun h225 => ?_)
  · refine Ew.iload hx dL_law_241 rfl ?_
    refine Ew.bipush hx dL_law_243 k_bipush_10 ?_
    refine Ew.icmp_ne hx (tgt := 261) dL_law_245 rfl (fun h245 => ?_) (fun h245 => ?_)
    · refine Ew.iload hx dL_law_261 rfl ?_
      refine Ew.bipush hx dL_law_263 k_bipush_11 ?_
      refine Ew.icmp_ne hx (tgt := 283) dL_law_265 rfl (fun h265 => ?_) (fun h265 => ?_)
      · exact lt_283 hx (hL) kk
      · have k11 : kiN w = 11 := by rw [iq, tn (by omega), tl_11] at h265; omega
        refine Ew.aload_n hx dL_law_268 rfl ?_
        refine Ew.iconst hx dL_law_269 k_iconst_5 ?_
        refine Ew.callV2 (y' := mX11_money) hx dL_law_270 ml_RL_20 cf_X11_money cv_X11_money (ct_X11_money G V hC _) rfl oc_0 rfl (by decide) (by decide) rfl (Nat.le_of_ble_eq_true rfl) ?_
        rintro _ V9 ⟨rfl, h9⟩; subst V9
        refine Ew.iload hx dL_law_273 rfl ?_
        refine Ew.iload hx dL_law_275 rfl ?_
        refine Ew.iadd hx dL_law_277 ?_
        refine Ew.icmp_eq_t hx (tgt := 283) dL_law_278 rfl (m11 k11) ?_
        exact lt_283 hx (hL) kk
    · have k10 : kiN w = 10 := by rw [iq, tn (by omega), tl_10] at h245; omega
      refine Ew.aload_n hx dL_law_248 rfl ?_
      refine Ew.iconst hx dL_law_249 k_iconst_2 ?_
      refine Ew.callV2 (y' := mX11_money) hx dL_law_250 ml_RL_20 cf_X11_money cv_X11_money (ct_X11_money G V hC _) rfl oc_0 rfl (by decide) (by decide) rfl (Nat.le_of_ble_eq_true rfl) ?_
      rintro _ V9 ⟨rfl, h9⟩; subst V9
      refine Ew.iload hx dL_law_253 rfl ?_
      refine Ew.iload hx dL_law_255 rfl ?_
      refine Ew.isub hx dL_law_257 ?_
      refine Ew.icmp_ne_f hx (tgt := 281) dL_law_258 rfl (m10 k10) ?_
      refine Ew.iload hx dL_law_261 rfl ?_
      refine Ew.bipush hx dL_law_263 k_bipush_11 ?_
      refine Ew.icmp_ne hx (tgt := 283) dL_law_265 rfl (fun h265 => ?_) (fun h265 => ?_)
      · exact lt_283 hx (hL) kk
      · have k11 : kiN w = 11 := by rw [iq, tn (by omega), tl_11] at h265; omega
        refine Ew.aload_n hx dL_law_268 rfl ?_
        refine Ew.iconst hx dL_law_269 k_iconst_5 ?_
        refine Ew.callV2 (y' := mX11_money) hx dL_law_270 ml_RL_20 cf_X11_money cv_X11_money (ct_X11_money G V hC _) rfl oc_0 rfl (by decide) (by decide) rfl (Nat.le_of_ble_eq_true rfl) ?_
        rintro _ V9 ⟨rfl, h9⟩; subst V9
        refine Ew.iload hx dL_law_273 rfl ?_
        refine Ew.iload hx dL_law_275 rfl ?_
        refine Ew.iadd hx dL_law_277 ?_
        refine Ew.icmp_eq_t hx (tgt := 283) dL_law_278 rfl (m11 k11) ?_
        exact lt_283 hx (hL) kk
  · have k9 : kiN w = 9 := by rw [iq, tn (by omega), tl_9] at h225; omega
    refine Ew.aload_n hx dL_law_228 rfl ?_
    refine Ew.iconst hx dL_law_229 k_iconst_2 ?_
    refine Ew.callV2 (y' := mX11_money) hx dL_law_230 ml_RL_20 cf_X11_money cv_X11_money (ct_X11_money G V hC _) rfl oc_0 rfl (by decide) (by decide) rfl (Nat.le_of_ble_eq_true rfl) ?_
    rintro _ V9 ⟨rfl, h9⟩; subst V9
    refine Ew.iload hx dL_law_233 rfl ?_
    refine Ew.iload hx dL_law_235 rfl ?_
    refine Ew.iadd hx dL_law_237 ?_
    refine Ew.icmp_ne_f hx (tgt := 281) dL_law_238 rfl (m9 k9) ?_
    refine Ew.iload hx dL_law_241 rfl ?_
    refine Ew.bipush hx dL_law_243 k_bipush_10 ?_
    refine Ew.icmp_ne hx (tgt := 261) dL_law_245 rfl (fun h245 => ?_) (fun h245 => ?_)
    · refine Ew.iload hx dL_law_261 rfl ?_
      refine Ew.bipush hx dL_law_263 k_bipush_11 ?_
      refine Ew.icmp_ne hx (tgt := 283) dL_law_265 rfl (fun h265 => ?_) (fun h265 => ?_)
      · exact lt_283 hx (hL) kk
      · have k11 : kiN w = 11 := by rw [iq, tn (by omega), tl_11] at h265; omega
        refine Ew.aload_n hx dL_law_268 rfl ?_
        refine Ew.iconst hx dL_law_269 k_iconst_5 ?_
        refine Ew.callV2 (y' := mX11_money) hx dL_law_270 ml_RL_20 cf_X11_money cv_X11_money (ct_X11_money G V hC _) rfl oc_0 rfl (by decide) (by decide) rfl (Nat.le_of_ble_eq_true rfl) ?_
        rintro _ V9 ⟨rfl, h9⟩; subst V9
        refine Ew.iload hx dL_law_273 rfl ?_
        refine Ew.iload hx dL_law_275 rfl ?_
        refine Ew.iadd hx dL_law_277 ?_
        refine Ew.icmp_eq_t hx (tgt := 283) dL_law_278 rfl (m11 k11) ?_
        exact lt_283 hx (hL) kk
    · have k10 : kiN w = 10 := by rw [iq, tn (by omega), tl_10] at h245; omega
      refine Ew.aload_n hx dL_law_248 rfl ?_
      refine Ew.iconst hx dL_law_249 k_iconst_2 ?_
      refine Ew.callV2 (y' := mX11_money) hx dL_law_250 ml_RL_20 cf_X11_money cv_X11_money (ct_X11_money G V hC _) rfl oc_0 rfl (by decide) (by decide) rfl (Nat.le_of_ble_eq_true rfl) ?_
      rintro _ V9 ⟨rfl, h9⟩; subst V9
      refine Ew.iload hx dL_law_253 rfl ?_
      refine Ew.iload hx dL_law_255 rfl ?_
      refine Ew.isub hx dL_law_257 ?_
      refine Ew.icmp_ne_f hx (tgt := 281) dL_law_258 rfl (m10 k10) ?_
      refine Ew.iload hx dL_law_261 rfl ?_
      refine Ew.bipush hx dL_law_263 k_bipush_11 ?_
      refine Ew.icmp_ne hx (tgt := 283) dL_law_265 rfl (fun h265 => ?_) (fun h265 => ?_)
      · exact lt_283 hx (hL) kk
      · have k11 : kiN w = 11 := by rw [iq, tn (by omega), tl_11] at h265; omega
        refine Ew.aload_n hx dL_law_268 rfl ?_
        refine Ew.iconst hx dL_law_269 k_iconst_5 ?_
        refine Ew.callV2 (y' := mX11_money) hx dL_law_270 ml_RL_20 cf_X11_money cv_X11_money (ct_X11_money G V hC _) rfl oc_0 rfl (by decide) (by decide) rfl (Nat.le_of_ble_eq_true rfl) ?_
        rintro _ V9 ⟨rfl, h9⟩; subst V9
        refine Ew.iload hx dL_law_273 rfl ?_
        refine Ew.iload hx dL_law_275 rfl ?_
        refine Ew.iadd hx dL_law_277 ?_
        refine Ew.icmp_eq_t hx (tgt := 283) dL_law_278 rfl (m11 k11) ?_
        exact lt_283 hx (hL) kk
set_option maxHeartbeats 4000000 in
set_option maxRecDepth 100000 in
theorem lt_o {G : GT} {C : CT} {V : Mm} (hx : Cx G mL_law 7 C) {s : Sv} {n z : Nat} {h : Nat → Sv} {i : Nat} {v w : Int32} {x4 : Option Value} {V0 : Mm} (hL : LJ V0 s n z h i) (hi : i < 20) (hc : (actA s w).1 = 0) (hC : CR V (actA s w).2.2 (nxH n) (szH z) (psh s h) (30000 * (i : Int) + 15000)) (kk : ∀ (V2 : Mm) (s2 : Sv) (n2 z2 : Nat) (h2 : Nat → Sv), LJ V2 s2 n2 z2 h2 (i + 1) → Ew G C V2 83 [some (.ref (xB G)), some (adr G 0), some (.int v), some (.int (nI (i + 1))), none, none, none, none, none, none, none, none] []) : Ew G C V 141 [some (.ref (xB G)), some (adr G 0), some (.int v), some (.int (nI i)), x4, some (.int w), some (.long (dgS s)), none, some (.int (anMoney s 2)), some (.int (anMoney s 5)), none, none] [.int (actA s w).2.1] := by
  have hW := hL.1.2.2.2.2.2.1.1
  have hz5 := hL.1.2.2.2.1
  have hz6 := sz_1 hz5
  have hr2 := hL.2.2.1
  obtain ⟨hok, m9, m10, m11⟩ := act_ok hW (by omega) (by omega) hL.2.1 (by omega) (by omega) hc
  have na := nlerr hok.2.2.2.2
  have hL1 : LJ V (actA s w).2.2 (nxH n) (szH z) (psh s h) (i + 1) := hL.next (hC.mono (by omega)) hok hz6.1
  refine Ew.istoreL hx dL_law_141 (by decide) rfl ?_
  refine Ew.iload hx dL_law_143 rfl ?_
  refine Ew.callS (y' := mL_isError) hx dL_law_145 ml_RL_103 cf_L_isError cs_L_isError (ct_L_isError G V _) rfl (by decide) (by decide) rfl (Nat.le_of_ble_eq_true rfl) ?_
  rintro _ V9 ⟨rfl, h9⟩; subst V9
  rw [b2i_f (na)]
  refine Ew.if_eq_t hx (tgt := 163) dL_law_148 rfl (by decide) ?_
  refine Ew.iload hx dL_law_163 rfl ?_
  refine Ew.callS (y' := mL_isError) hx dL_law_165 ml_RL_103 cf_L_isError cs_L_isError (ct_L_isError G V _) rfl (by decide) (by decide) rfl (Nat.le_of_ble_eq_true rfl) ?_
  rintro _ V9 ⟨rfl, h9⟩; subst V9
  rw [b2i_f (na)]
  refine Ew.if_ne_f hx (tgt := 206) dL_law_168 rfl (by decide) ?_
  refine Ew.iload_n hx dL_law_171 rfl ?_
  refine Ew.iconst hx dL_law_172 k_iconst_3 ?_
  refine Ew.iand hx dL_law_173 ?_
  refine Ew.iconst hx dL_law_174 k_iconst_2 ?_
  refine Ew.icmp_ne hx (tgt := 206) dL_law_175 rfl (fun h175 => ?_) (fun h175 => ?_)
  · first
      | exact lt_206 hx hC hL1 na m9 m10 m11 kk
      | exact lt_206 hx hC3 hL2 na m9 m10 m11 kk
  · refine Ew.aload_n hx dL_law_178 rfl ?_
    refine Ew.callV2 (y' := mX11_undo) hx dL_law_179 ml_RL_107 cf_X11_undo cv_X11_undo (ct_X11_undo G V hC) rfl oc_0 rfl (by decide) (by decide) rfl (Nat.le_of_ble_eq_true rfl) ?_
    rintro v9 V9 ⟨-, hU⟩; obtain ⟨-, rfl, hC2⟩ := hU.resolve_left (fun q => by have q1 := q.1; omega)
    refine Ew.pop hx dL_law_182 rfl ?_
    refine Ew.aload_n hx dL_law_183 rfl ?_
    refine Ew.callS (y' := mL_digest) hx dL_law_184 ml_RL_95 cf_L_digest cs_L_digest (ct_L_digest G V9 (s := s) hC2) rfl (by decide) (by decide) rfl (Nat.le_of_ble_eq_true rfl) ?_
    rintro _ V9 ⟨rfl, h9⟩; subst V9
    refine Ew.lload hx dL_law_187 rfl ?_
    refine Ew.lcmp hx dL_law_189 ?_
    refine Ew.if_ne_f hx (tgt := 204) dL_law_190 rfl (lc_0 _) ?_
    refine Ew.aload_n hx dL_law_193 rfl ?_
    refine Ew.iload hx dL_law_194 rfl ?_
    refine Ew.callS (y' := mL_act) hx dL_law_196 ml_RL_99 cf_L_act cs_L_act (ct_L_act G V9 (s := s) hC2 (by omega) (by omega) (by omega) w) rfl (by decide) (by decide) rfl (Nat.le_of_ble_eq_true rfl) ?_
    rintro v8 V8 hA; obtain ⟨x8, rfl⟩ := act_i hA
    obtain ⟨-, rfl, hC3⟩ := (act_two hA).resolve_left (fun q => by have q1 := q.1; rw [hc] at q1; exact absurd q1 (by decide))
    have hL2 : LJ V8 (actA s w).2.2 _ _ _ (i + 1) := hL.next (hC3.mono (by omega)) hok (sz_1 (by omega)).1
    refine Ew.iload hx dL_law_199 rfl ?_
    refine Ew.icmp_eq_t hx (tgt := 206) dL_law_201 rfl (rfl) ?_
    first
      | exact lt_206 hx hC hL1 na m9 m10 m11 kk
      | exact lt_206 hx hC3 hL2 na m9 m10 m11 kk
set_option maxHeartbeats 4000000 in
set_option maxRecDepth 100000 in
theorem lt_115 {G : GT} {C : CT} {V : Mm} (hx : Cx G mL_law 7 C) {s : Sv} {n z : Nat} {h : Nat → Sv} {i : Nat} {v w : Int32} {x4 : Option Value} (hL : LJ V s n z h i) (hi : i < 20) (kk : ∀ (V2 : Mm) (s2 : Sv) (n2 z2 : Nat) (h2 : Nat → Sv), LJ V2 s2 n2 z2 h2 (i + 1) → Ew G C V2 83 [some (.ref (xB G)), some (adr G 0), some (.int v), some (.int (nI (i + 1))), none, none, none, none, none, none, none, none] []) : Ew G C V 115 [some (.ref (xB G)), some (adr G 0), some (.int v), some (.int (nI i)), x4, some (.int w), none, none, none, none, none, none] [] := by
  have hr2 := hL.2.2.1
  refine Ew.aload_n hx dL_law_115 rfl ?_
  refine Ew.callS (y' := mL_digest) hx dL_law_116 ml_RL_95 cf_L_digest cs_L_digest (ct_L_digest G V hL.1) rfl (by decide) (by decide) rfl (Nat.le_of_ble_eq_true rfl) ?_
  rintro _ V9 ⟨rfl, h9⟩; subst V9
  refine Ew.lstore hx dL_law_119 (by decide) rfl rfl ?_
  refine Ew.aload_n hx dL_law_121 rfl ?_
  refine Ew.iconst hx dL_law_122 k_iconst_2 ?_
  refine Ew.callV2 (y' := mX11_money) hx dL_law_123 ml_RL_20 cf_X11_money cv_X11_money (ct_X11_money G V hL.1 _) rfl oc_0 rfl (by decide) (by decide) rfl (Nat.le_of_ble_eq_true rfl) ?_
  rintro _ V9 ⟨rfl, h9⟩; subst V9
  refine Ew.istoreL hx dL_law_126 (by decide) rfl ?_
  refine Ew.aload_n hx dL_law_128 rfl ?_
  refine Ew.iconst hx dL_law_129 k_iconst_5 ?_
  refine Ew.callV2 (y' := mX11_money) hx dL_law_130 ml_RL_20 cf_X11_money cv_X11_money (ct_X11_money G V hL.1 _) rfl oc_0 rfl (by decide) (by decide) rfl (Nat.le_of_ble_eq_true rfl) ?_
  rintro _ V9 ⟨rfl, h9⟩; subst V9
  refine Ew.istoreL hx dL_law_133 (by decide) rfl ?_
  refine Ew.aload_n hx dL_law_135 rfl ?_
  refine Ew.iload hx dL_law_136 rfl ?_
  refine Ew.callS (y' := mL_act) hx dL_law_138 ml_RL_99 cf_L_act cs_L_act (ct_L_act G V hL.1 (by omega) (by omega) (by omega) w) rfl (by decide) (by decide) rfl (Nat.le_of_ble_eq_true rfl) ?_
  rintro v9 V9 hA; obtain ⟨x9, rfl⟩ := act_i hA
  rcases act_two hA with ⟨hc, rfl, hC2⟩ | ⟨hc, rfl, hC2⟩
  · exact lt_e hx (s := s) ⟨hC2, hL.2⟩ (lerr_of (act_e s w) hc) kk
  · exact lt_o hx hL hi hc hC2 kk
set_option maxHeartbeats 4000000 in
set_option maxRecDepth 100000 in
theorem lt_main {G : GT} {C : CT} (hx : Cx G mL_law 7 C) {v : Int32} (kk : ∀ (V2 : Mm) (s2 : Sv) (n2 z2 : Nat) (h2 : Nat → Sv), LJ V2 s2 n2 z2 h2 20 → Ew G C V2 298 [some (.ref (xB G)), some (adr G 0), some (.int v), some (.int (nI 20)), none, none, none, none, none, none, none, none] []) : ∀ (k i : Nat), i + k = 20 → ∀ (V : Mm) (s : Sv) (n z : Nat) (h : Nat → Sv), LJ V s n z h i → Ew G C V 83 [some (.ref (xB G)), some (adr G 0), some (.int v), some (.int (nI i)), none, none, none, none, none, none, none, none] [] := by
  intro k
  induction k with
  | zero =>
    intro i hi V s n z h hL
    obtain rfl : i = 20 := by omega
    refine Ew.iload_n hx dL_law_83 rfl ?_
    refine Ew.bipush hx dL_law_84 k_bipush_20 ?_
    refine Ew.icmp_ge_t hx (tgt := 298) dL_law_86 rfl (by decide) ?_
    exact kk _ _ _ _ _ hL
  | succ k ih =>
    intro i hi V s n z h hL
    refine Ew.iload_n hx dL_law_83 rfl ?_
    refine Ew.bipush hx dL_law_84 k_bipush_20 ?_
    rw [show (20 : Int32) = nI 20 from rfl]
    refine Ew.icmp_ge_f hx (tgt := 298) dL_law_86 rfl (nI_ge (by omega) (by omega)) ?_
    refine Ew.aload_n hx dL_law_89 rfl ?_
    refine Ew.iload_n hx dL_law_90 rfl ?_
    refine Ew.callS (y' := mL_cell) hx dL_law_91 ml_RL_91 cf_L_cell cs_L_cell (ct_L_cell G V (k := i) (by omega)) rfl (by decide) (by decide) rfl (Nat.le_of_ble_eq_true rfl) ?_
    rintro _ V9 ⟨⟨a, rfl⟩, h9⟩; subst V9
    refine Ew.istoreL hx dL_law_94 (by decide) rfl ?_
    refine Ew.iload_n hx dL_law_96 rfl ?_
    refine Ew.iconst hx dL_law_97 k_iconst_5 ?_
    refine Ew.icmp_ge hx (tgt := 111) dL_law_98 rfl (fun h98 => ?_) (fun h98 => ?_)
    · refine Ew.iload hx dL_law_111 rfl ?_
      refine Ew.istoreL hx dL_law_113 (by decide) rfl ?_
      exact lt_115 hx hL (by omega) (fun V2 s2 n2 z2 h2 hL2 => ih (i + 1) (by omega) V2 s2 n2 z2 h2 hL2)
    · refine Ew.iload hx dL_law_101 rfl ?_
      refine Ew.bipush hx dL_law_103 k_bipush_m16 ?_
      refine Ew.iand hx dL_law_105 ?_
      refine Ew.iconst hx dL_law_106 k_iconst_4 ?_
      refine Ew.ior hx dL_law_107 ?_
      refine Ew.goto hx (tgt := 113) dL_law_108 rfl ?_
      refine Ew.istoreL hx dL_law_113 (by decide) rfl ?_
      exact lt_115 hx hL (by omega) (fun V2 s2 n2 z2 h2 hL2 => ih (i + 1) (by omega) V2 s2 n2 z2 h2 hL2)
