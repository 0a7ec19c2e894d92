set_option maxHeartbeats 4000000 in
set_option maxRecDepth 100000 in
theorem ct_X12_refundCode (G : GT) (V : Mm) {s : Sv} {B : Int} (hM : MR V s) (hW : WF s B) (p : Int32) : Ct G mX12_refundCode 2 [adr G 532, .int p] (V) (Ri (cdRefund s p) V) := by
  refine Ct.of cf_X12_refundCode (List.forall_mem_cons.mpr ⟨rfl, List.forall_mem_cons.mpr ⟨rfl, fun _ h => absurd h List.not_mem_nil⟩⟩) (Nat.le_of_ble_eq_true rfl) (l0 := [some (adr G 532), some (.int p)]) rfl (fun C hx hq => ?_)
  refine Ew.aload_n hx dX12_refundCode_0 rfl ?_
  refine Ew.iload_n hx dX12_refundCode_1 rfl ?_
  refine Ew.callV2 (y' := mX12_isPermit) hx dX12_refundCode_2 ml_RX12_112 cf_X12_isPermit cv_X12_isPermit (ct_X12_isPermit G V hM hW p) rfl oc_19 rfl (by decide) (by decide) rfl (Nat.le_of_ble_eq_true rfl) ?_
  rintro _ V9 ⟨rfl, h9⟩; subst V9
  refine Ew.ifne_b hx (tgt := 13) dX12_refundCode_5 rfl (fun h5 => ?_) (fun h5 => ?_)
  · have ok : cdRefund s p = _ := cif_t h5
    obtain ⟨k, hpk, hk⟩ := hW.pix h5
    have hp12 : k < 12 := by have := hW.np.2; omega
    have hpn : nt p = k := by rw [hpk, nt_nI (by omega)]
    rw [hpn] at ok
    refine Ew.aload_n hx dX12_refundCode_13 rfl ?_
    refine Ew.iload_n hx dX12_refundCode_14 rfl ?_
    refine Ew.bipush hx dX12_refundCode_15 k_bipush_7 ?_
    rw [hpk]
    refine Ew.callV2 (y' := mX12_of) hx dX12_refundCode_17 ml_RX12_53 cf_X12_of cv_X12_of (ct_X12_of G V hp12 (j := 7) (by decide)) rfl oc_19 rfl (by decide) (by decide) rfl (Nat.le_of_ble_eq_true rfl) ?_
    rintro _ V9 ⟨rfl, h9⟩; subst V9
    rw [hM _ (by omega)]
    refine Ew.if_ne hx (tgt := 28) dX12_refundCode_20 rfl (fun h20 => ?_) (fun h20 => ?_)
    · rw [hpk] at ok
      have ec := ok.trans (cif_f h20)
      refine Ew.iconst hx dX12_refundCode_28 k_iconst_0 ?_
      refine Ew.iret hx hq dX12_refundCode_29 rfl ?_
      refine ⟨congrArg (fun z => some (Value.int z)) ?_, rfl⟩
      first | exact ec.symm | (rw [hpk]; exact ec.symm)
    · rw [hpk] at ok
      have ec := ok.trans (cif_t h20)
      refine Ew.ldc hx dX12_refundCode_23 kn_RX12_100 ?_
      refine Ew.goto hx (tgt := 29) dX12_refundCode_25 rfl ?_
      refine Ew.iret hx hq dX12_refundCode_29 rfl ?_
      refine ⟨congrArg (fun z => some (Value.int z)) ?_, rfl⟩
      first | exact ec.symm | (rw [hpk]; exact ec.symm)
  · have ec : cdRefund s p = -100001 := cif_f h5
    refine Ew.ldc hx dX12_refundCode_8 kn_RX12_69 ?_
    refine Ew.goto hx (tgt := 29) dX12_refundCode_10 rfl ?_
    refine Ew.iret hx hq dX12_refundCode_29 rfl ?_
    refine ⟨congrArg (fun z => some (Value.int z)) ?_, rfl⟩
    first | exact ec.symm | (rw [hpk]; exact ec.symm)
set_option maxHeartbeats 4000000 in
set_option maxRecDepth 100000 in
theorem ct_X12_refundNow (G : GT) (V : Mm) {s : Sv} {B : Int} (hM : MR V s) (hW : WF s B) {k : Nat} (hk : k < npN s) : Ct G mX12_refundNow 1 [adr G 532, .int (nI k)] (V) (fun v V9 => v = some (.int (pf s k 7)) ∧ MR V9 (prow s k (rfF (prw s k))) ∧ ∀ k, k ≠ 533 → V9 k = V k) := by
  refine Ct.of cf_X12_refundNow (List.forall_mem_cons.mpr ⟨rfl, List.forall_mem_cons.mpr ⟨rfl, fun _ h => absurd h List.not_mem_nil⟩⟩) (Nat.le_of_ble_eq_true rfl) (l0 := [some (adr G 532), some (.int (nI k)), none]) rfl (fun C hx hq => ?_)
  have hp12 : k < 12 := by have := hW.np.2; omega
  have hR0 := hM.row k
  refine Ew.aload_n hx dX12_refundNow_0 rfl ?_
  refine Ew.iload_n hx dX12_refundNow_1 rfl ?_
  refine Ew.bipush hx dX12_refundNow_2 k_bipush_7 ?_
  refine Ew.callV2 (y' := mX12_of) hx dX12_refundNow_4 ml_RX12_53 cf_X12_of cv_X12_of (ct_X12_of G V hp12 (j := 7) (by decide)) rfl oc_19 rfl (by decide) (by decide) rfl (Nat.le_of_ble_eq_true rfl) ?_
  rintro _ V9 ⟨rfl, h9⟩; subst V9
  rw [hM _ (by omega)]
  refine Ew.istore_n hx dX12_refundNow_7 (by decide) rfl ?_
  refine Ew.aload_n hx dX12_refundNow_8 rfl ?_
  refine Ew.iload_n hx dX12_refundNow_9 rfl ?_
  refine Ew.bipush hx dX12_refundNow_10 k_bipush_7 ?_
  refine Ew.iconst hx dX12_refundNow_12 k_iconst_0 ?_
  refine Ew.callV2 (y' := mX12_set) hx dX12_refundNow_13 ml_RX12_101 cf_X12_set cv_X12_set (ct_X12_set G V hp12 (j := 7) (by decide) _) rfl oc_19 rfl (by decide) (by decide) rfl (Nat.le_of_ble_eq_true rfl) ?_
  rintro _ V9 ⟨rfl, h9⟩; subst V9
  have hR1 := hR0.rput (j := 7) (by decide) 0
  refine Ew.aload_n hx dX12_refundNow_16 rfl ?_
  refine Ew.iload_n hx dX12_refundNow_17 rfl ?_
  refine Ew.bipush hx dX12_refundNow_18 k_bipush_8 ?_
  refine Ew.iload_n hx dX12_refundNow_20 rfl ?_
  refine Ew.callV2 (y' := mX12_grow) hx dX12_refundNow_21 ml_RX12_122 cf_X12_grow cv_X12_grow (ct_X12_grow G _ hp12 (j := 8) (by decide) _) rfl oc_19 rfl (by decide) (by decide) rfl (Nat.le_of_ble_eq_true rfl) ?_
  rintro _ V9 ⟨rfl, h9⟩; subst V9
  have hR2 := hR1.rput (j := 8) (by decide) (mup V 533 (49 + 12 * k + 7) 0 533 (49 + 12 * k + 8) + s (49 + 12 * k + 7))
  have e8 : mup V 533 (49 + 12 * k + 7) 0 533 (49 + 12 * k + 8) = prw s k 8 := (hR1.rat hp12 (j := 8) (by decide)).trans (upd_n _ _ (by decide))
  refine Ew.iload_n hx dX12_refundNow_24 rfl ?_
  refine Ew.iret hx hq dX12_refundNow_25 rfl ?_
  refine ⟨rfl, hR2.rcg (fun j _ => ?_), fun q hq2 => by rw [mup_ne _ _ _ hq2, mup_ne _ _ _ hq2]⟩
  rw [e8, show s (49 + 12 * k + 7) = prw s k 7 from rfl]
  unfold rfF
  by_cases q8 : j = 8
  · subst q8; rw [upd_s, upd_n _ _ (by decide), upd_s]
  · rw [upd_n _ _ q8]
    by_cases q7 : j = 7
    · subst q7; rw [upd_s, upd_s]
    · rw [upd_n _ _ q7, upd_n _ _ q7, upd_n _ _ q8]
set_option maxHeartbeats 4000000 in
set_option maxRecDepth 100000 in
theorem ct_X12_refund (G : GT) (V : Mm) {s : Sv} {B : Int} {z : Nat} {h : Nat → Sv} (hM : MR V s) (hW : WF s B) (hS : MS V z h) (p : Int32) : Ct G mX12_refund 3 [adr G 532, .int p] (V) (MAct V s z h (cdRefund s p) (pf s (nt p) 7) (nxRefund s p)) := by
  refine Ct.of cf_X12_refund (List.forall_mem_cons.mpr ⟨rfl, List.forall_mem_cons.mpr ⟨rfl, fun _ h => absurd h List.not_mem_nil⟩⟩) (Nat.le_of_ble_eq_true rfl) (l0 := [some (adr G 532), some (.int p), none]) rfl (fun C hx hq => ?_)
  refine Ew.aload_n hx dX12_refund_0 rfl ?_
  refine Ew.iconst hx dX12_refund_1 k_iconst_0 ?_
  refine Ew.putI hx dX12_refund_2 pg_RX12_31 rfl ?_
  refine Ew.aload_n hx dX12_refund_5 rfl ?_
  refine Ew.iload_n hx dX12_refund_6 rfl ?_
  refine Ew.callV2 (y' := mX12_refundCode) hx dX12_refund_7 ml_RX12_137 cf_X12_refundCode cv_X12_refundCode (ct_X12_refundCode G _ hM.m0 hW p) rfl oc_19 rfl (by decide) (by decide) rfl (Nat.le_of_ble_eq_true rfl) ?_
  rintro _ V9 ⟨rfl, h9⟩; subst V9
  refine Ew.istore_n hx dX12_refund_10 (by decide) rfl ?_
  refine Ew.iload_n hx dX12_refund_11 rfl ?_
  refine Ew.if_ge hx (tgt := 17) dX12_refund_12 rfl (fun h12 => ?_) (fun h12 => ?_)
  · have ok := cdE_ok (cdRefund_e s p) h12
    obtain ⟨k, hpk, hk⟩ := hW.pix (cif_0 ok).1
    have hp12 : k < 12 := by have := hW.np.2; omega
    have hpn : nt p = k := by rw [hpk, nt_nI (by omega)]
    refine Ew.aload_n hx dX12_refund_17 rfl ?_
    refine Ew.callV2 (y' := mX12_act) hx dX12_refund_18 ml_RX12_70 cf_X12_act cv_X12_act (ct_X12_act G _ hM.m0 hS.m0) rfl oc_19 rfl (by decide) (by decide) rfl (Nat.le_of_ble_eq_true rfl) ?_
    rintro v V2 hA; obtain rfl := hA.1; have hM2 := hA.mr hM.m0
    refine Ew.aload_n hx dX12_refund_21 rfl ?_
    refine Ew.iload_n hx dX12_refund_22 rfl ?_
    unfold nxRefund at hq
    rw [hpn] at hq
    rw [hpk]
    refine Ew.callV2 (y' := mX12_refundNow) hx dX12_refund_23 ml_RX12_140 cf_X12_refundNow cv_X12_refundNow (ct_X12_refundNow G V2 hM2 hW hk) rfl oc_19 rfl (by decide) (by decide) rfl (Nat.le_of_ble_eq_true rfl) ?_
    rintro _ V3 ⟨rfl, hM3, hF3⟩
    refine Ew.iret hx hq dX12_refund_26 rfl ?_
    exact mact_ok (fun _ _ => rfl) hA ok hM3 (fun k h1 _ => hF3 k h1)
  · refine Ew.iload_n hx dX12_refund_15 rfl ?_
    refine Ew.iret hx hq dX12_refund_16 rfl ?_
    exact mact_no (fun _ _ => rfl) hM hS (by rw [il, tl_0]; rw [ie, tl_0] at h12; omega)
set_option maxHeartbeats 4000000 in
set_option maxRecDepth 100000 in
theorem ct_X12_cancelCode (G : GT) (V : Mm) {s : Sv} {B : Int} (hM : MR V s) (hW : WF s B) (p : Int32) : Ct G mX12_cancelCode 3 [adr G 532, .int p] (V) (Ri (cdCancel s p) V) := by
  refine Ct.of cf_X12_cancelCode (List.forall_mem_cons.mpr ⟨rfl, List.forall_mem_cons.mpr ⟨rfl, fun _ h => absurd h List.not_mem_nil⟩⟩) (Nat.le_of_ble_eq_true rfl) (l0 := [some (adr G 532), some (.int p)]) rfl (fun C hx hq => ?_)
  refine Ew.aload_n hx dX12_cancelCode_0 rfl ?_
  refine Ew.iload_n hx dX12_cancelCode_1 rfl ?_
  refine Ew.callV2 (y' := mX12_isPermit) hx dX12_cancelCode_2 ml_RX12_112 cf_X12_isPermit cv_X12_isPermit (ct_X12_isPermit G V hM hW p) rfl oc_19 rfl (by decide) (by decide) rfl (Nat.le_of_ble_eq_true rfl) ?_
  rintro _ V9 ⟨rfl, h9⟩; subst V9
  refine Ew.ifne_b hx (tgt := 13) dX12_cancelCode_5 rfl (fun h5 => ?_) (fun h5 => ?_)
  · have ok : cdCancel s p = _ := cif_t h5
    obtain ⟨k, hpk, hk⟩ := hW.pix h5
    have hp12 : k < 12 := by have := hW.np.2; omega
    have hpn : nt p = k := by rw [hpk, nt_nI (by omega)]
    rw [hpn] at ok
    refine Ew.aload_n hx dX12_cancelCode_13 rfl ?_
    refine Ew.iload_n hx dX12_cancelCode_14 rfl ?_
    rw [hpk]
    refine Ew.callV2 (y' := mX12_daysToCome) hx dX12_cancelCode_15 ml_RX12_115 cf_X12_daysToCome cv_X12_daysToCome (ct_X12_daysToCome G V hM hW hk) rfl oc_19 rfl (by decide) (by decide) rfl (Nat.le_of_ble_eq_true rfl) ?_
    rintro _ V9 ⟨rfl, h9⟩; subst V9
    refine Ew.if_ne hx (tgt := 26) dX12_cancelCode_18 rfl (fun h18 => ?_) (fun h18 => ?_)
    · rw [hpk] at ok
      have ec := ok.trans (cif_f h18)
      refine Ew.iconst hx dX12_cancelCode_26 k_iconst_0 ?_
      refine Ew.iret hx hq dX12_cancelCode_27 rfl ?_
      refine ⟨congrArg (fun z => some (Value.int z)) ?_, rfl⟩
      first | exact ec.symm | (rw [hpk]; exact ec.symm)
    · rw [hpk] at ok
      have ec := ok.trans (cif_t h18)
      refine Ew.ldc hx dX12_cancelCode_21 kn_RX12_100 ?_
      refine Ew.goto hx (tgt := 27) dX12_cancelCode_23 rfl ?_
      refine Ew.iret hx hq dX12_cancelCode_27 rfl ?_
      refine ⟨congrArg (fun z => some (Value.int z)) ?_, rfl⟩
      first | exact ec.symm | (rw [hpk]; exact ec.symm)
  · have ec : cdCancel s p = -100001 := cif_f h5
    refine Ew.ldc hx dX12_cancelCode_8 kn_RX12_69 ?_
    refine Ew.goto hx (tgt := 27) dX12_cancelCode_10 rfl ?_
    refine Ew.iret hx hq dX12_cancelCode_27 rfl ?_
    refine ⟨congrArg (fun z => some (Value.int z)) ?_, rfl⟩
    first | exact ec.symm | (rw [hpk]; exact ec.symm)
set_option maxHeartbeats 4000000 in
set_option maxRecDepth 100000 in
theorem ct_X12_passCode (G : GT) (V : Mm) {s : Sv} (hM : MR V s) (c : Int32) : Ct G mX12_passCode 1 [adr G 532, .int c] (V) (Ri (cdPass s c) V) := by
  refine Ct.of cf_X12_passCode (List.forall_mem_cons.mpr ⟨rfl, List.forall_mem_cons.mpr ⟨rfl, fun _ h => absurd h List.not_mem_nil⟩⟩) (Nat.le_of_ble_eq_true rfl) (l0 := [some (adr G 532), some (.int c)]) rfl (fun C hx hq => ?_)
  refine Ew.iload_n hx dX12_passCode_0 rfl ?_
  refine Ew.sipush hx dX12_passCode_1 k_sipush_m500 ?_
  refine Ew.sipush hx dX12_passCode_4 k_sipush_500 ?_
  refine Ew.callS (y' := mX12_in) hx dX12_passCode_7 ml_RX12_38 cf_X12_in cs_X12_in (ct_X12_in G _ _ _ _) rfl (by decide) (by decide) rfl (Nat.le_of_ble_eq_true rfl) ?_
  rintro _ V9 ⟨rfl, h9⟩; subst V9
  refine Ew.ifne_b hx (tgt := 18) dX12_passCode_10 rfl (fun h10 => ?_) (fun h10 => ?_)
  · have ok : cdPass s c = _ := cif_t h10
    refine Ew.aload_n hx dX12_passCode_18 rfl ?_
    refine Ew.getR (533) hx dX12_passCode_19 fg_RX12_7 rfl rfl ?_
    refine Ew.iconst hx dX12_passCode_22 k_iconst_0 ?_
    refine Ew.iald (i := 0) hx dX12_passCode_23 ag_20 rfl (rfl) (by decide) ?_
    rw [hM 0 (by decide)]
    refine Ew.sipush hx dX12_passCode_24 k_sipush_181 ?_
    refine Ew.icmp_ne hx (tgt := 35) dX12_passCode_27 rfl (fun h27 => ?_) (fun h27 => ?_)
    · have ec := ok.trans (cif_f h27)
      refine Ew.iconst hx dX12_passCode_35 k_iconst_0 ?_
      refine Ew.iret hx hq dX12_passCode_36 rfl ?_
      refine ⟨congrArg (fun z => some (Value.int z)) ?_, rfl⟩
      exact ec.symm
    · have ec := ok.trans (cif_t h27)
      refine Ew.ldc hx dX12_passCode_30 kn_RX12_100 ?_
      refine Ew.goto hx (tgt := 36) dX12_passCode_32 rfl ?_
      refine Ew.iret hx hq dX12_passCode_36 rfl ?_
      refine ⟨congrArg (fun z => some (Value.int z)) ?_, rfl⟩
      exact ec.symm
  · have ec : cdPass s c = -100001 := cif_f h10
    refine Ew.ldc hx dX12_passCode_13 kn_RX12_69 ?_
    refine Ew.goto hx (tgt := 36) dX12_passCode_15 rfl ?_
    refine Ew.iret hx hq dX12_passCode_36 rfl ?_
    refine ⟨congrArg (fun z => some (Value.int z)) ?_, rfl⟩
    exact ec.symm
