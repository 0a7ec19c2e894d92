/-- what a question leaves: its answer; nothing changed but the levels and the mark of a throw -/
def QR (V : Mm) (a : Int32) : PT := fun v V9 => v = some (.int a) ∧ (∀ k, k ≠ 532 → k ≠ 536 → V9 k = V k) ∧ ∀ i, i ≠ 0 → V9 532 i = V 532 i
theorem QR.ri {V : Mm} {a : Int32} {v : Option Value} {V9 : Mm} (h : Ri a (mup V 532 0 0) v V9) : QR V a v V9 := by
  obtain ⟨rfl, rfl⟩ := h
  exact ⟨rfl, fun k h1 _ => mup_ne _ _ _ h1, fun i hi => mup_oth _ _ _ _ (Or.inr hi)⟩
theorem QR.fv {V : Mm} {s : Sv} {a : Int32} {i : Nat} : QR V a (some (.int a)) (fV (mup V 532 0 0) s i) := ⟨rfl, fun k h1 h2 => by rw [fV_o _ _ _ h2, mup_ne _ _ _ h1], fun j hj => by rw [fV_o _ _ _ (by decide), mup_oth _ _ _ _ (Or.inr hj)]⟩
set_option maxHeartbeats 4000000 in
set_option maxRecDepth 100000 in
theorem ct_X12_rate (G : GT) (V : Mm) {s : Sv} {B : Int} (hM : MR V s) (hW : WF s B) (w : Int32) : Ct G mX12_rate 1 [adr G 532, .int w] (V) (Ri (anRate s w) (mup V 532 0 0)) := by
  refine Ct.of cf_X12_rate (List.forall_mem_cons.mpr ⟨rfl, List.forall_mem_cons.mpr ⟨rfl, fun _ h => absurd h List.not_mem_nil⟩⟩) (Nat.le_of_ble_eq_true rfl) (l0 := [some (adr G 532), some (.int w)]) rfl (fun C hx hq => ?_)
  refine Ew.aload_n hx dX12_rate_0 rfl ?_
  refine Ew.iconst hx dX12_rate_1 k_iconst_0 ?_
  refine Ew.putI hx dX12_rate_2 pg_RX12_31 rfl ?_
  refine Ew.iload_n hx dX12_rate_5 rfl ?_
  refine Ew.iconst hx dX12_rate_6 k_iconst_0 ?_
  refine Ew.bipush hx dX12_rate_7 k_bipush_25 ?_
  refine Ew.callS (y' := mX12_in) hx dX12_rate_9 ml_RX12_38 cf_X12_in cs_X12_in (ct_X12_in G _ _ _ _) rfl (by decide) (by decide) rfl (Nat.le_of_ble_eq_true rfl) ?_
  rintro _ V9 ⟨rfl, h9⟩; subst V9
  refine Ew.ifeq_b hx (tgt := 27) dX12_rate_12 rfl (fun h12 => ?_) (fun h12 => ?_)
  · have ec : anRate s w = -100001 := cif_f h12
    refine Ew.ldc hx dX12_rate_27 kn_RX12_69 ?_
    refine Ew.iret hx hq dX12_rate_29 rfl ?_
    refine ⟨congrArg (fun z => some (Value.int z)) ?_, rfl⟩
    exact ec.symm
  · have ec : anRate s w = _ := cif_t h12
    have q := h12
    rw [ie, ie, tl_0, tl_25] at q
    have ew : w = nI (nt w) := ofNI q.1
    have hn : nt w < 26 := by unfold nt; omega
    refine Ew.aload_n hx dX12_rate_15 rfl ?_
    refine Ew.getR (533) hx dX12_rate_16 fg_RX12_7 rfl rfl ?_
    refine Ew.bipush hx dX12_rate_19 k_bipush_11 ?_
    refine Ew.iload_n hx dX12_rate_21 rfl ?_
    refine Ew.iadd hx dX12_rate_22 ?_
    refine Ew.iald (i := 11 + nt w) hx dX12_rate_23 ag_20 rfl ((congrArg (fun z : Int32 => 11 + z) ew).trans (nI_add 11 _)) (by omega) ?_
    rw [hM.m0 _ (by omega)]
    refine Ew.goto hx (tgt := 29) dX12_rate_24 rfl ?_
    refine Ew.iret hx hq dX12_rate_29 rfl ?_
    refine ⟨congrArg (fun z => some (Value.int z)) ?_, rfl⟩
    exact ec.symm
set_option maxHeartbeats 4000000 in
set_option maxRecDepth 100000 in
theorem ct_X12_forecast (G : GT) (V : Mm) {s : Sv} {B : Int} (hM : MR V s) (hW : WF s B) (d : Int32) : Ct G mX12_forecast 2 [adr G 532, .int d] (V) (QR V (anForecast s d)) := by
  refine Ct.of cf_X12_forecast (List.forall_mem_cons.mpr ⟨rfl, List.forall_mem_cons.mpr ⟨rfl, fun _ h => absurd h List.not_mem_nil⟩⟩) (Nat.le_of_ble_eq_true rfl) (l0 := [some (adr G 532), some (.int d)]) rfl (fun C hx hq => ?_)
  refine Ew.aload_n hx dX12_forecast_0 rfl ?_
  refine Ew.iconst hx dX12_forecast_1 k_iconst_0 ?_
  refine Ew.putI hx dX12_forecast_2 pg_RX12_31 rfl ?_
  refine Ew.iload_n hx dX12_forecast_5 rfl ?_
  refine Ew.iconst hx dX12_forecast_6 k_iconst_0 ?_
  refine Ew.sipush hx dX12_forecast_7 k_sipush_181 ?_
  refine Ew.callS (y' := mX12_in) hx dX12_forecast_10 ml_RX12_38 cf_X12_in cs_X12_in (ct_X12_in G _ _ _ _) rfl (by decide) (by decide) rfl (Nat.le_of_ble_eq_true rfl) ?_
  rintro _ V9 ⟨rfl, h9⟩; subst V9
  refine Ew.ifne_b hx (tgt := 19) dX12_forecast_13 rfl (fun h13 => ?_) (fun h13 => ?_)
  · have ok : anForecast s d = _ := cif_t h13
    have q := h13
    rw [ie, ie, tl_0, tl_181] at q
    have ed : d = nI (nt d) := ofNI q.1
    have hn : nt d ≤ 181 := by unfold nt; omega
    refine Ew.iload_n hx dX12_forecast_19 rfl ?_
    refine Ew.aload_n hx dX12_forecast_20 rfl ?_
    refine Ew.getR (533) hx dX12_forecast_21 fg_RX12_7 rfl rfl ?_
    refine Ew.iconst hx dX12_forecast_24 k_iconst_0 ?_
    refine Ew.iald (i := 0) hx dX12_forecast_25 ag_20 rfl (rfl) (by decide) ?_
    have ht := hW.t
    rw [hM.m0 0 (by decide)]
    refine Ew.icmp_ge hx (tgt := 32) dX12_forecast_26 rfl (fun h26 => ?_) (fun h26 => ?_)
    · have ec : anForecast s d = FC s (nt d - tN s) := ok.trans (cif_t (by rw [ie] at h26 ⊢; exact h26))
      have htd : tN s ≤ nt d := by
        have q := h26
        rw [ie, ht.1, ed, tn (by omega), tn (by omega)] at q
        omega
      refine Ew.aload_n hx dX12_forecast_32 rfl ?_
      refine Ew.callV2 (y' := mX12_foresee) hx dX12_forecast_33 ml_RX12_59 cf_X12_foresee cv_X12_foresee (ct_X12_foresee G _ hM.m0 hW) rfl oc_19 rfl (by decide) (by decide) rfl (Nat.le_of_ble_eq_true rfl) ?_
      rintro _ V9 ⟨rfl, h9⟩; subst V9
      refine Ew.aload_n hx dX12_forecast_36 rfl ?_
      refine Ew.getR (536) hx dX12_forecast_37 fg_RX12_19 rfl rfl ?_
      refine Ew.iload_n hx dX12_forecast_40 rfl ?_
      refine Ew.iald (i := nt d) hx dX12_forecast_41 ag_22 rfl (ed) (by omega) ?_
      refine Ew.iret hx hq dX12_forecast_42 rfl ?_
      rw [fV_at _ s (by omega), ← ec]
      exact QR.fv
    · have ec : anForecast s d = -100002 := ok.trans (cif_f (fun q => by rw [ie] at q h26; omega))
      refine Ew.ldc hx dX12_forecast_29 kn_RX12_100 ?_
      refine Ew.iret hx hq dX12_forecast_31 rfl ?_
      exact QR.ri ⟨by rw [ec], rfl⟩
  · have ec : anForecast s d = -100001 := cif_f h13
    refine Ew.ldc hx dX12_forecast_16 kn_RX12_69 ?_
    refine Ew.iret hx hq dX12_forecast_18 rfl ?_
    exact QR.ri ⟨by rw [ec], rfl⟩
set_option maxHeartbeats 4000000 in
set_option maxRecDepth 100000 in
theorem ct_X12_part (G : GT) (V : Mm) {s : Sv} {B : Int} (hM : MR V s) (hW : WF s B) (x : Int32) : Ct G mX12_part 2 [adr G 532, .int x] (V) (Ri (anPart0 s x) (mup V 532 0 0)) := by
  refine Ct.of cf_X12_part (List.forall_mem_cons.mpr ⟨rfl, List.forall_mem_cons.mpr ⟨rfl, fun _ h => absurd h List.not_mem_nil⟩⟩) (Nat.le_of_ble_eq_true rfl) (l0 := [some (adr G 532), some (.int x), none]) rfl (fun C hx hq => ?_)
  refine Ew.aload_n hx dX12_part_0 rfl ?_
  refine Ew.iconst hx dX12_part_1 k_iconst_0 ?_
  refine Ew.putI hx dX12_part_2 pg_RX12_31 rfl ?_
  refine Ew.aload_n hx dX12_part_5 rfl ?_
  refine Ew.iload_n hx dX12_part_6 rfl ?_
  refine Ew.callV2 (y' := mX12_isPermit) hx dX12_part_7 ml_RX12_112 cf_X12_isPermit cv_X12_isPermit (ct_X12_isPermit G _ hM.m0 hW x) rfl oc_19 rfl (by decide) (by decide) rfl (Nat.le_of_ble_eq_true rfl) ?_
  rintro _ V9 ⟨rfl, h9⟩; subst V9
  refine Ew.ifne_b hx (tgt := 16) dX12_part_10 rfl (fun h10 => ?_) (fun h10 => ?_)
  · have hnp := hW.np
    obtain ⟨p, hxp, hp⟩ := hW.pix h10
    have hp12 : p < 12 := by omega
    have hxn : nt x = p := by rw [hxp, nt_nI (by omega)]
    have ok : anPart0 s x = _ := cif_t h10
    rw [hxn] at ok
    have h9 := (hW.pm hp).2.2.2.2.2.1
    have h0 := hW.1
    obtain ⟨u, hu, e1⟩ : ∃ u : Nat, (u : Int) = (pf s p 9).toInt ∧ pf s p 9 = nI u := ⟨_, by omega, ofNI h9.1⟩
    obtain ⟨l, hl, e2⟩ : ∃ l : Nat, (l : Int) = (pf s p 10).toInt ∧ pf s p 10 = nI l := ⟨_, by omega, ofNI h9.2.1⟩
    rw [e1, e2] at ok
    unfold ptA at ok
    rw [nI_add] at ok
    rw [hxp]
    rw [hxp] at ok
    refine Ew.aload_n hx dX12_part_16 rfl ?_
    refine Ew.iload_n hx dX12_part_17 rfl ?_
    refine Ew.bipush hx dX12_part_18 k_bipush_9 ?_
    refine Ew.callV2 (y' := mX12_of) hx dX12_part_20 ml_RX12_53 cf_X12_of cv_X12_of (ct_X12_of G _ hp12 (j := 9) (by decide)) rfl oc_19 rfl (by decide) (by decide) rfl (Nat.le_of_ble_eq_true rfl) ?_
    rintro _ V9 ⟨rfl, h9⟩; subst V9
    rw [hM.m0 _ (by omega), show s (49 + 12 * p + 9) = nI u from e1]
    refine Ew.aload_n hx dX12_part_23 rfl ?_
    refine Ew.iload_n hx dX12_part_24 rfl ?_
    refine Ew.bipush hx dX12_part_25 k_bipush_10 ?_
    refine Ew.callV2 (y' := mX12_of) hx dX12_part_27 ml_RX12_53 cf_X12_of cv_X12_of (ct_X12_of G _ hp12 (j := 10) (by decide)) rfl oc_19 rfl (by decide) (by decide) rfl (Nat.le_of_ble_eq_true rfl) ?_
    rintro _ V9 ⟨rfl, h9⟩; subst V9
    rw [hM.m0 _ (by omega), show s (49 + 12 * p + 10) = nI l from e2]
    refine Ew.iadd hx dX12_part_30 ?_
    rw [nI_add]
    refine Ew.istore_n hx dX12_part_31 (by decide) rfl ?_
    refine Ew.iload_n hx dX12_part_32 rfl ?_
    refine Ew.if_ne hx (tgt := 41) dX12_part_33 rfl (fun h33 => ?_) (fun h33 => ?_)
    · have ec := ok.trans (cif_f h33)
      have h00 : 0 < u + l := Nat.pos_of_ne_zero (fun q => h33 (by rw [q]; rfl))
      refine Ew.ldcf hx dX12_part_41 kf_RX12_231 ?_
      refine Ew.aload_n hx dX12_part_43 rfl ?_
      refine Ew.iload_n hx dX12_part_44 rfl ?_
      refine Ew.bipush hx dX12_part_45 k_bipush_9 ?_
      refine Ew.callV2 (y' := mX12_of) hx dX12_part_47 ml_RX12_53 cf_X12_of cv_X12_of (ct_X12_of G _ hp12 (j := 9) (by decide)) rfl oc_19 rfl (by decide) (by decide) rfl (Nat.le_of_ble_eq_true rfl) ?_
      rintro _ V9 ⟨rfl, h9⟩; subst V9
      rw [hM.m0 _ (by omega), show s (49 + 12 * p + 9) = nI u from e1]
      refine Ew.i2f hx dX12_part_50 ?_
      refine Ew.fmul hx dX12_part_51 (nn32 (fp_1 (u := u) (by omega)).nn) ?_
      refine Ew.iload_n hx dX12_part_52 rfl ?_
      refine Ew.i2f hx dX12_part_53 ?_
      refine Ew.fdiv hx dX12_part_54 (fp_2 (t := u + l) (u := u) (by omega) (by omega) (by omega)) ?_
      refine Ew.f2i hx dX12_part_55 ?_
      refine Ew.iret hx hq dX12_part_56 rfl ?_
      refine ⟨congrArg (fun z => some (Value.int z)) ?_, rfl⟩
      first | exact ec.symm | (rw [hxp]; exact ec.symm)
    · have ec := ok.trans (cif_t h33)
      refine Ew.ldc hx dX12_part_36 kn_RX12_200 ?_
      refine Ew.goto hx (tgt := 56) dX12_part_38 rfl ?_
      refine Ew.iret hx hq dX12_part_56 rfl ?_
      refine ⟨congrArg (fun z => some (Value.int z)) ?_, rfl⟩
      first | exact ec.symm | (rw [hxp]; exact ec.symm)
  · have ec : anPart0 s x = -100001 := cif_f h10
    refine Ew.ldc hx dX12_part_13 kn_RX12_69 ?_
    refine Ew.iret hx hq dX12_part_15 rfl ?_
    refine ⟨congrArg (fun z => some (Value.int z)) ?_, rfl⟩
    exact ec.symm
