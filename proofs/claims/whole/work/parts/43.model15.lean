set_option maxHeartbeats 4000000 in
set_option maxRecDepth 100000 in
theorem ct_X12_pass (G : GT) (V : Mm) {s : Sv} {B : Int} {z : Nat} {h : Nat → Sv} (hM : MR V s) (hW : WF s B) (hS : MS V z h) (c : Int32) : Ct G mX12_pass 3 [adr G 532, .int c] (V) (MAct V s z h (cdPass s c) (nI (lsN s (npN s))) (nxPass s c)) := by
  refine Ct.of cf_X12_pass (List.forall_mem_cons.mpr ⟨rfl, List.forall_mem_cons.mpr ⟨rfl, fun _ h => absurd h List.not_mem_nil⟩⟩) (Nat.le_of_ble_eq_true rfl) (l0 := [some (adr G 532), some (.int c), none]) rfl (fun C hx hq => ?_)
  refine Ew.aload_n hx dX12_pass_0 rfl ?_
  refine Ew.iconst hx dX12_pass_1 k_iconst_0 ?_
  refine Ew.putI hx dX12_pass_2 pg_RX12_31 rfl ?_
  refine Ew.aload_n hx dX12_pass_5 rfl ?_
  refine Ew.iload_n hx dX12_pass_6 rfl ?_
  refine Ew.callV2 (y' := mX12_passCode) hx dX12_pass_7 ml_RX12_143 cf_X12_passCode cv_X12_passCode (ct_X12_passCode G _ hM.m0 c) rfl oc_19 rfl (by decide) (by decide) rfl (Nat.le_of_ble_eq_true rfl) ?_
  rintro _ V9 ⟨rfl, h9⟩; subst V9
  refine Ew.istore_n hx dX12_pass_10 (by decide) rfl ?_
  refine Ew.iload_n hx dX12_pass_11 rfl ?_
  refine Ew.if_ge hx (tgt := 17) dX12_pass_12 rfl (fun h12 => ?_) (fun h12 => ?_)
  · have ok := cdE_ok (cdPass_e s c) h12
    refine Ew.aload_n hx dX12_pass_17 rfl ?_
    refine Ew.callV2 (y' := mX12_act) hx dX12_pass_18 ml_RX12_70 cf_X12_act cv_X12_act (ct_X12_act G _ hM.m0 hS.m0) rfl oc_19 rfl (by decide) (by decide) rfl (Nat.le_of_ble_eq_true rfl) ?_
    rintro v V2 hA; obtain rfl := hA.1; have hM2 := hA.mr hM.m0
    refine Ew.aload_n hx dX12_pass_21 rfl ?_
    refine Ew.iload_n hx dX12_pass_22 rfl ?_
    refine Ew.callV2 (y' := mX12_passNow) hx dX12_pass_23 ml_RX12_146 cf_X12_passNow cv_X12_passNow (ct_X12_passNow G V2 hM2 hW c) rfl oc_19 rfl (by decide) (by decide) rfl (Nat.le_of_ble_eq_true rfl) ?_
    rintro _ V3 ⟨rfl, hM3, hF3⟩
    refine Ew.iret hx hq dX12_pass_26 rfl ?_
    exact mact_ok (fun _ _ => rfl) hA ok hM3 (fun k h1 _ => hF3 k h1)
  · refine Ew.iload_n hx dX12_pass_15 rfl ?_
    refine Ew.iret hx hq dX12_pass_16 rfl ?_
    exact mact_no (fun _ _ => rfl) hM hS (by rw [il, tl_0]; rw [ie, tl_0] at h12; omega)
set_option maxHeartbeats 4000000 in
set_option maxRecDepth 100000 in
theorem ct_X12_volume (G : GT) (V : Mm) (x : Int32) : Ct G mX12_volume 1 [adr G 532, .int x] (V) (Ri (anVol x) (mup V 532 0 0)) := by
  refine Ct.of cf_X12_volume (List.forall_mem_cons.mpr ⟨rfl, List.forall_mem_cons.mpr ⟨rfl, fun _ h => absurd h List.not_mem_nil⟩⟩) (Nat.le_of_ble_eq_true rfl) (l0 := [some (adr G 532), some (.int x), none, none]) rfl (fun C hx hq => ?_)
  refine Ew.aload_n hx dX12_volume_0 rfl ?_
  refine Ew.iconst hx dX12_volume_1 k_iconst_0 ?_
  refine Ew.putI hx dX12_volume_2 pg_RX12_31 rfl ?_
  refine Ew.iload_n hx dX12_volume_5 rfl ?_
  refine Ew.iconst hx dX12_volume_6 k_iconst_0 ?_
  refine Ew.sipush hx dX12_volume_7 k_sipush_5000 ?_
  refine Ew.callS (y' := mX12_in) hx dX12_volume_10 ml_RX12_38 cf_X12_in cs_X12_in (ct_X12_in G _ _ _ _) rfl (by decide) (by decide) rfl (Nat.le_of_ble_eq_true rfl) ?_
  rintro _ V9 ⟨rfl, h9⟩; subst V9
  refine Ew.ifne_b hx (tgt := 19) dX12_volume_13 rfl (fun h13 => ?_) (fun h13 => ?_)
  · have ec : anVol x = _ := cif_t h13
    obtain ⟨n, hn, rfl⟩ : ∃ n : Nat, n ≤ 5000 ∧ x = nI n := by
      have q := h13
      rw [ie, ie, tl_0, tl_5000] at q
      exact ⟨x.toInt.toNat, by omega, ofNI q.1⟩
    have fv := fp_v hn
    refine Ew.iload_n hx dX12_volume_19 rfl ?_
    refine Ew.i2d hx dX12_volume_20 ?_
    refine Ew.dstore_n hx dX12_volume_21 (by decide) rfl rfl ?_
    refine Ew.dload_n hx dX12_volume_22 rfl ?_
    refine Ew.dload_n hx dX12_volume_23 rfl ?_
    refine Ew.dmul hx dX12_volume_24 fv.1 ?_
    refine Ew.ldc2d hx dX12_volume_25 kg_RX12_232 ?_
    refine Ew.dmul hx dX12_volume_28 fv.2.1 ?_
    refine Ew.ldc2d hx dX12_volume_29 kg_RX12_234 ?_
    refine Ew.dload_n hx dX12_volume_32 rfl ?_
    refine Ew.dmul hx dX12_volume_33 fv.2.2.1 ?_
    refine Ew.dadd hx dX12_volume_34 fv.2.2.2 ?_
    refine Ew.d2i hx dX12_volume_35 ?_
    refine Ew.iret hx hq dX12_volume_36 rfl ?_
    refine ⟨congrArg (fun z => some (Value.int z)) ?_, rfl⟩
    exact ec.symm
  · have ec : anVol x = -100001 := cif_f h13
    refine Ew.ldc hx dX12_volume_16 kn_RX12_69 ?_
    refine Ew.iret hx hq dX12_volume_18 rfl ?_
    refine ⟨congrArg (fun z => some (Value.int z)) ?_, rfl⟩
    exact ec.symm
