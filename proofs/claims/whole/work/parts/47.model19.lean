set_option maxHeartbeats 4000000 in
set_option maxRecDepth 100000 in
theorem ct_X12_reasonFor (G : GT) (V : Mm) {s : Sv} {B : Int} (hM : MR V s) (hW : WF s B) {r : Nat} (hr4 : r < 4) (d q : Int32) (hq0 : q = -1 ∨ (0 ≤ q ∧ q < s 3)) : Ct G mX12_reasonFor 2 [adr G 532, .int (nI r), .int d, .int q] (V) (Ri (rsn s r d q) V) := by
  refine Ct.of cf_X12_reasonFor (List.forall_mem_cons.mpr ⟨rfl, List.forall_mem_cons.mpr ⟨rfl, List.forall_mem_cons.mpr ⟨rfl, List.forall_mem_cons.mpr ⟨rfl, fun _ h => absurd h List.not_mem_nil⟩⟩⟩⟩) (Nat.le_of_ble_eq_true rfl) (l0 := [some (adr G 532), some (.int (nI r)), some (.int d), some (.int q)]) rfl (fun C hx hq => ?_)
  refine Ew.aload_n hx dX12_reasonFor_0 rfl ?_
  refine Ew.iload_n hx dX12_reasonFor_1 rfl ?_
  refine Ew.iload_n hx dX12_reasonFor_2 rfl ?_
  refine Ew.aload_n hx dX12_reasonFor_3 rfl ?_
  refine Ew.getR (533) hx dX12_reasonFor_4 fg_RX12_7 rfl rfl ?_
  refine Ew.iconst hx dX12_reasonFor_7 k_iconst_1 ?_
  refine Ew.iald (i := 1) hx dX12_reasonFor_8 ag_20 rfl (rfl) (by decide) ?_
  rw [hM 1 (by decide)]
  refine Ew.callV2 (y' := mX12_isOpen) hx dX12_reasonFor_9 ml_RX12_62 cf_X12_isOpen cv_X12_isOpen (ct_X12_isOpen G V hM hr4 d _) rfl oc_19 rfl (by decide) (by decide) rfl (Nat.le_of_ble_eq_true rfl) ?_
  rintro _ V9 ⟨rfl, h9⟩; subst V9
  refine Ew.ifne_b hx (tgt := 17) dX12_reasonFor_12 rfl (fun h12 => ?_) (fun h12 => ?_)
  · have ok : rsn s r d q = _ := cif_f (fun z => z h12)
    refine Ew.iload_n hx dX12_reasonFor_17 rfl ?_
    refine Ew.iconst hx dX12_reasonFor_18 k_iconst_m1 ?_
    refine Ew.icmp_eq hx (tgt := 46) dX12_reasonFor_19 rfl (fun h19 => ?_) (fun h19 => ?_)
    · have ec : rsn s r d q = 2 := ok.trans (cif_t (Or.inl (fun z => by rw [h19] at z; exact absurd z.1 (by decide))))
      refine Ew.iconst hx dX12_reasonFor_46 k_iconst_2 ?_
      refine Ew.iret hx hq dX12_reasonFor_47 rfl ?_
      refine ⟨congrArg (fun z => some (Value.int z)) ?_, rfl⟩
      first | exact ec.symm | (rw [hqk]; exact ec.symm)
    · have hq1 := hq0.resolve_left h19
      obtain ⟨k, hqk, hk⟩ := hW.pix hq1
      have hnp := hW.np
      have hk12 : k < 12 := by omega
      have hqn : nt q = k := by rw [hqk, nt_nI (by omega)]
      rw [hqn] at ok
      have ht := hW.t
      refine Ew.aload_n hx dX12_reasonFor_22 rfl ?_
      refine Ew.iload_n hx dX12_reasonFor_23 rfl ?_
      refine Ew.iconst hx dX12_reasonFor_24 k_iconst_0 ?_
      rw [hqk]
      refine Ew.callV2 (y' := mX12_of) hx dX12_reasonFor_25 ml_RX12_53 cf_X12_of cv_X12_of (ct_X12_of G V hk12 (j := 0) (by decide)) rfl oc_19 rfl (by decide) (by decide) rfl (Nat.le_of_ble_eq_true rfl) ?_
      rintro _ V9 ⟨rfl, h9⟩; subst V9
      rw [hM _ (by omega), show s (49 + 12 * k + 0) = pf s k 0 from rfl]
      refine Ew.iload_n hx dX12_reasonFor_28 rfl ?_
      refine Ew.icmp_ne hx (tgt := 46) dX12_reasonFor_29 rfl (fun h29 => ?_) (fun h29 => ?_)
      · have ec : rsn s r d q = 2 := ok.trans (cif_t (Or.inr (Or.inl h29)))
        refine Ew.iconst hx dX12_reasonFor_46 k_iconst_2 ?_
        refine Ew.iret hx hq dX12_reasonFor_47 rfl ?_
        refine ⟨congrArg (fun z => some (Value.int z)) ?_, rfl⟩
        first | exact ec.symm | (rw [hqk]; exact ec.symm)
      · refine Ew.aload_n hx dX12_reasonFor_32 rfl ?_
        refine Ew.iload_n hx dX12_reasonFor_33 rfl ?_
        refine Ew.aload_n hx dX12_reasonFor_34 rfl ?_
        refine Ew.getR (533) hx dX12_reasonFor_35 fg_RX12_7 rfl rfl ?_
        refine Ew.iconst hx dX12_reasonFor_38 k_iconst_0 ?_
        refine Ew.iald (i := 0) hx dX12_reasonFor_39 ag_20 rfl (rfl) (by decide) ?_
        rw [hM 0 (by decide), ht.1]
        refine Ew.callV2 (y' := mX12_comes) hx dX12_reasonFor_40 ml_RX12_56 cf_X12_comes cv_X12_comes (ct_X12_comes G V hM hk12 (tN s)) rfl oc_19 rfl (by decide) (by decide) rfl (Nat.le_of_ble_eq_true rfl) ?_
        rintro _ V9 ⟨rfl, h9⟩; subst V9
        refine Ew.ifne_b hx (tgt := 48) dX12_reasonFor_43 rfl (fun h43 => ?_) (fun h43 => ?_)
        · have ok2 : rsn s r d q = _ := ok.trans (cif_f (fun z => by
            rcases z with z | z | z
            · exact z hq1
            · exact z h29
            · exact z h43))
          refine Ew.iload_n hx dX12_reasonFor_48 rfl ?_
          refine Ew.aload_n hx dX12_reasonFor_49 rfl ?_
          refine Ew.iload_n hx dX12_reasonFor_50 rfl ?_
          refine Ew.iconst hx dX12_reasonFor_51 k_iconst_3 ?_
          refine Ew.callV2 (y' := mX12_of) hx dX12_reasonFor_52 ml_RX12_53 cf_X12_of cv_X12_of (ct_X12_of G V hk12 (j := 3) (by decide)) rfl oc_19 rfl (by decide) (by decide) rfl (Nat.le_of_ble_eq_true rfl) ?_
          rintro _ V9 ⟨rfl, h9⟩; subst V9
          rw [hM _ (by omega), show s (49 + 12 * k + 3) = pf s k 3 from rfl]
          refine Ew.icmp_le hx (tgt := 62) dX12_reasonFor_55 rfl (fun h55 => ?_) (fun h55 => ?_)
          · have ec : rsn s r d q = 0 := ok2.trans (cif_f (by rw [il]; rw [ie] at h55; omega))
            refine Ew.iconst hx dX12_reasonFor_62 k_iconst_0 ?_
            refine Ew.iret hx hq dX12_reasonFor_63 rfl ?_
            refine ⟨congrArg (fun z => some (Value.int z)) ?_, rfl⟩
            first | exact ec.symm | (rw [hqk]; exact ec.symm)
          · have ec : rsn s r d q = 3 := ok2.trans (cif_t (by rw [il]; rw [ie] at h55; omega))
            refine Ew.iconst hx dX12_reasonFor_58 k_iconst_3 ?_
            refine Ew.goto hx (tgt := 63) dX12_reasonFor_59 rfl ?_
            refine Ew.iret hx hq dX12_reasonFor_63 rfl ?_
            refine ⟨congrArg (fun z => some (Value.int z)) ?_, rfl⟩
            first | exact ec.symm | (rw [hqk]; exact ec.symm)
        · have ec : rsn s r d q = 2 := ok.trans (cif_t (Or.inr (Or.inr h43)))
          refine Ew.iconst hx dX12_reasonFor_46 k_iconst_2 ?_
          refine Ew.iret hx hq dX12_reasonFor_47 rfl ?_
          refine ⟨congrArg (fun z => some (Value.int z)) ?_, rfl⟩
          first | exact ec.symm | (rw [hqk]; exact ec.symm)
  · have ec : rsn s r d q = 1 := cif_t h12
    refine Ew.iconst hx dX12_reasonFor_15 k_iconst_1 ?_
    refine Ew.iret hx hq dX12_reasonFor_16 rfl ?_
    refine ⟨congrArg (fun z => some (Value.int z)) ?_, rfl⟩
    exact ec.symm
