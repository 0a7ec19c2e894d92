noncomputable def cLv (s : Sv) (k D : Nat) : Int32 := nI (clN s k D) * pf s k 4 + nI (D - ftc s k - clN s k D) * (pf s k 4 / 2)
theorem cLv_o {s : Sv} {k D : Nat} (hD : ftc s k ≤ D) (hc : clN s k D ≤ D - ftc s k) (e : clN s k (D + 1) = clN s k D) : cLv s k D + pf s k 4 / 2 = cLv s k (D + 1) := by
  unfold cLv
  rw [e, show D + 1 - ftc s k - clN s k D = (D - ftc s k - clN s k D) + 1 by omega, nI_succ, Int32.add_mul, Int32.one_mul, Int32.add_assoc]
theorem cLv_c {s : Sv} {k D : Nat} (hD : ftc s k ≤ D) (e : clN s k (D + 1) = clN s k D + 1) : cLv s k D + pf s k 4 = cLv s k (D + 1) := by
  unfold cLv
  rw [e, show D + 1 - ftc s k - (clN s k D + 1) = D - ftc s k - clN s k D by omega, nI_succ, Int32.add_mul, Int32.one_mul, Int32.add_assoc, Int32.add_assoc (nI (clN s k D) * pf s k 4), Int32.add_comm (pf s k 4)]
theorem cl_0 {s : Sv} {B : Int} (hW : WF s B) {k : Nat} (hk : k < npN s) : ∀ n, n ≤ ftc s k → n < 1000 → clN s k n = 0 := by
  intro n
  induction n with
  | zero => intro _ _; rfl
  | succ n ih =>
    intro h1 h2
    have ih2 := ih (by omega) (by omega)
    unfold clN at ih2 ⊢
    rw [cntN_f (P := fun D => cms s k D ∧ ¬ opn s (rrN s k) (pf s k 3) (FC s (D - tN s))) (fun q => by have := (cms_iff hW hk (by omega)).mp q.1; omega)]
    exact ih2
theorem cn_kept (f h a b c : Int32) (e : a = b + c) : a * f - (c * f + b * h) = b * (f - h) := by
  rw [e, Int32.add_mul, Int32.mul_sub]
  have e2 : b * f + c * f = (b * f - b * h) + (c * f + b * h) := by
    rw [Int32.sub_eq_add_neg, Int32.add_comm (c * f), ← Int32.add_assoc, Int32.add_assoc (b * f), Int32.add_left_neg, Int32.add_zero]
  rw [e2, Int32.add_sub_cancel]
set_option maxHeartbeats 4000000 in
set_option maxRecDepth 100000 in
theorem lp_X12_can {G : GT} {C : CT} {V : Mm} {s : Sv} {B : Int} (hM : MR V s) (hW : WF s B) {k r : Nat} {Q : PT} (hk : k < npN s) (hp12 : k < 12) (hr4 : r < 4) (er : pf s k 0 = nI r) (h11 : pf s k 11 = 0) (hla : laN s k ≤ 181) (el : pf s k 2 = nI (laN s k)) (hend : clN s k (laN s k + 1) ≤ laN s k + 1 - ftc s k → Ew G C (fV V s 182) 80 [some (adr G 532), some (.int (nI k)), some (.int (pf s k 4)), some (.int (cLv s k (laN s k + 1))), some (.int (dtc s k)), none] []) (hx : Cx G mX12_cancelNow 3 C) (hq : Cq G (Q) C) : ∀ (n i : Nat), i + n = laN s k + 1 → ftc s k ≤ i → clN s k i ≤ i - ftc s k → Ew G C (fV V s 182) 27 [some (adr G 532), some (.int (nI k)), some (.int (pf s k 4)), some (.int (cLv s k i)), some (.int (dtc s k)), some (.int (nI i))] [] := by
  intro n
  induction n with
  | zero =>
    intro i hi hfi hcl
    refine Ew.iload hx dX12_cancelNow_27 rfl ?_
    refine Ew.aload_n hx dX12_cancelNow_29 rfl ?_
    refine Ew.iload_n hx dX12_cancelNow_30 rfl ?_
    refine Ew.iconst hx dX12_cancelNow_31 k_iconst_2 ?_
    refine Ew.callV2 (y' := mX12_of) hx dX12_cancelNow_32 ml_RX12_53 cf_X12_of cv_X12_of (ct_X12_of G _ hp12 (j := 2) (by decide)) rfl oc_19 rfl (by decide) (by decide) rfl (Nat.le_of_ble_eq_true rfl) ?_
    rintro _ V9 ⟨rfl, h9⟩; subst V9
    rw [hM.fV 182 _ (by omega), show s (49 + 12 * k + 2) = nI (laN s k) from el]
    refine Ew.icmp_gt_t hx (tgt := 80) dX12_cancelNow_35 rfl (nI_lt (by omega) (by omega)) ?_
    have e : i = laN s k + 1 := by omega
    rw [e] at hcl ⊢
    exact Ew.drop 5 (hend hcl)
  | succ n ih =>
    intro i hi hfi hcl
    refine Ew.iload hx dX12_cancelNow_27 rfl ?_
    refine Ew.aload_n hx dX12_cancelNow_29 rfl ?_
    refine Ew.iload_n hx dX12_cancelNow_30 rfl ?_
    refine Ew.iconst hx dX12_cancelNow_31 k_iconst_2 ?_
    refine Ew.callV2 (y' := mX12_of) hx dX12_cancelNow_32 ml_RX12_53 cf_X12_of cv_X12_of (ct_X12_of G _ hp12 (j := 2) (by decide)) rfl oc_19 rfl (by decide) (by decide) rfl (Nat.le_of_ble_eq_true rfl) ?_
    rintro _ V9 ⟨rfl, h9⟩; subst V9
    rw [hM.fV 182 _ (by omega), show s (49 + 12 * k + 2) = nI (laN s k) from el]
    refine Ew.icmp_gt_f hx (tgt := 80) dX12_cancelNow_35 rfl (nI_nlt (by omega) (by omega)) ?_
    refine Ew.iload_n hx dX12_cancelNow_38 rfl ?_
    refine Ew.aload_n hx dX12_cancelNow_39 rfl ?_
    refine Ew.aload_n hx dX12_cancelNow_40 rfl ?_
    refine Ew.iload_n hx dX12_cancelNow_41 rfl ?_
    refine Ew.iconst hx dX12_cancelNow_42 k_iconst_0 ?_
    refine Ew.callV2 (y' := mX12_of) hx dX12_cancelNow_43 ml_RX12_53 cf_X12_of cv_X12_of (ct_X12_of G _ hp12 (j := 0) (by decide)) rfl oc_19 rfl (by decide) (by decide) rfl (Nat.le_of_ble_eq_true rfl) ?_
    rintro _ V9 ⟨rfl, h9⟩; subst V9
    rw [hM.fV 182 _ (by omega), show s (49 + 12 * k + 0) = nI r from er]
    refine Ew.aload_n hx dX12_cancelNow_46 rfl ?_
    refine Ew.iload_n hx dX12_cancelNow_47 rfl ?_
    refine Ew.iconst hx dX12_cancelNow_48 k_iconst_3 ?_
    refine Ew.callV2 (y' := mX12_of) hx dX12_cancelNow_49 ml_RX12_53 cf_X12_of cv_X12_of (ct_X12_of G _ hp12 (j := 3) (by decide)) rfl oc_19 rfl (by decide) (by decide) rfl (Nat.le_of_ble_eq_true rfl) ?_
    rintro _ V9 ⟨rfl, h9⟩; subst V9
    rw [hM.fV 182 _ (by omega)]
    refine Ew.aload_n hx dX12_cancelNow_52 rfl ?_
    refine Ew.getR (536) hx dX12_cancelNow_53 fg_RX12_19 rfl rfl ?_
    refine Ew.iload hx dX12_cancelNow_56 rfl ?_
    refine Ew.iald (i := i) hx dX12_cancelNow_58 ag_22 rfl (rfl) (by omega) ?_
    rw [fV_at V s (by have := (ftc_t s k).1; omega)]
    refine Ew.callV2 (y' := mX12_isOpen) hx dX12_cancelNow_59 ml_RX12_62 cf_X12_isOpen cv_X12_isOpen (ct_X12_isOpen G _ (hM.fV 182) hr4 _ _) rfl oc_19 rfl (by decide) (by decide) rfl (Nat.le_of_ble_eq_true rfl) ?_
    rintro _ V9 ⟨rfl, h9⟩; subst V9
    have hcm : cms s k i := (cms_iff hW hk (by omega)).mpr ⟨h11, hfi, by omega⟩
    have err : rrN s k = r := by unfold rrN; rw [er, tn (by omega)]; rfl
    refine Ew.ifeq_b hx (tgt := 71) dX12_cancelNow_62 rfl (fun h62 => ?_) (fun h62 => ?_)
    · have hc1 : clN s k (i + 1) = clN s k i + 1 := cntN_t (P := fun D => cms s k D ∧ ¬ opn s (rrN s k) (pf s k 3) (FC s (D - tN s))) ⟨hcm, by rw [err]; exact h62⟩
      refine Ew.iload_n hx dX12_cancelNow_71 rfl ?_
      refine Ew.iadd hx dX12_cancelNow_72 ?_
      first
        | rw [cLv_c hfi hc1]
        | rw [cLv_o hfi hcl hc1]
      refine Ew.istore_n hx dX12_cancelNow_73 (by decide) rfl ?_
      refine Ew.iinc hx dX12_cancelNow_74 rfl (k_iinc_1 _) (by decide) rfl ?_
      refine Ew.goto hx (tgt := 27) dX12_cancelNow_77 rfl ?_
      rw [nI_1]
      exact ih (i + 1) (by omega) (by omega) (by omega)
    · have hc1 : clN s k (i + 1) = clN s k i := cntN_f (P := fun D => cms s k D ∧ ¬ opn s (rrN s k) (pf s k 3) (FC s (D - tN s))) (fun q => q.2 (by rw [err]; exact h62))
      refine Ew.iload_n hx dX12_cancelNow_65 rfl ?_
      refine Ew.iconst hx dX12_cancelNow_66 k_iconst_2 ?_
      refine Ew.idiv hx dX12_cancelNow_67 (by decide) ?_
      refine Ew.goto hx (tgt := 72) dX12_cancelNow_68 rfl ?_
      refine Ew.iadd hx dX12_cancelNow_72 ?_
      first
        | rw [cLv_c hfi hc1]
        | rw [cLv_o hfi hcl hc1]
      refine Ew.istore_n hx dX12_cancelNow_73 (by decide) rfl ?_
      refine Ew.iinc hx dX12_cancelNow_74 rfl (k_iinc_1 _) (by decide) rfl ?_
      refine Ew.goto hx (tgt := 27) dX12_cancelNow_77 rfl ?_
      rw [nI_1]
      exact ih (i + 1) (by omega) (by omega) (by omega)
set_option maxHeartbeats 4000000 in
set_option maxRecDepth 100000 in
theorem ct_X12_cancelNow (G : GT) (V : Mm) {s : Sv} {B : Int} (hM : MR V s) (hW : WF s B) {k : Nat} (hk : k < npN s) (hd0 : ¬ dtc s k = 0) : Ct G mX12_cancelNow 3 [adr G 532, .int (nI k)] (V) (fun v V9 => v = some (.int (anCancel s (nI k))) ∧ MR V9 (nxCancel s (nI k)) ∧ ∀ q, q ≠ 533 → q ≠ 536 → V9 q = V q) := by
  refine Ct.of cf_X12_cancelNow (List.forall_mem_cons.mpr ⟨rfl, List.forall_mem_cons.mpr ⟨rfl, fun _ h => absurd h List.not_mem_nil⟩⟩) (Nat.le_of_ble_eq_true rfl) (l0 := [some (adr G 532), some (.int (nI k)), none, none, none, none]) rfl (fun C hx hq => ?_)
  have hp12 : k < 12 := by have := hW.np.2; omega
  have hd := ((dtc_cases hW hk).resolve_left (fun q => hd0 q.1)).2
  have hcn := dtc_N hW hk
  obtain ⟨r, a, b, er, hr, ea, eb, hab, hb, -⟩ := hW.pn hk
  have hr4 : r < 4 := by have := hW.nr.2; omega
  have ela : laN s k = b := by unfold laN; rw [eb, tn (by omega)]; rfl
  have hla : laN s k ≤ 181 := by omega
  have el : pf s k 2 = nI (laN s k) := by rw [ela]; exact eb
  have en : nt (nI k) = k := nt_nI (by omega)
  refine Ew.aload_n hx dX12_cancelNow_0 rfl ?_
  refine Ew.callV2 (y' := mX12_foresee) hx dX12_cancelNow_1 ml_RX12_59 cf_X12_foresee cv_X12_foresee (ct_X12_foresee G V hM hW) rfl oc_19 rfl (by decide) (by decide) rfl (Nat.le_of_ble_eq_true rfl) ?_
  rintro _ V9 ⟨rfl, h9⟩; subst V9
  refine Ew.aload_n hx dX12_cancelNow_4 rfl ?_
  refine Ew.iload_n hx dX12_cancelNow_5 rfl ?_
  refine Ew.iconst hx dX12_cancelNow_6 k_iconst_4 ?_
  refine Ew.callV2 (y' := mX12_of) hx dX12_cancelNow_7 ml_RX12_53 cf_X12_of cv_X12_of (ct_X12_of G _ hp12 (j := 4) (by decide)) rfl oc_19 rfl (by decide) (by decide) rfl (Nat.le_of_ble_eq_true rfl) ?_
  rintro _ V9 ⟨rfl, h9⟩; subst V9
  rw [hM.fV 182 _ (by omega)]
  refine Ew.istore_n hx dX12_cancelNow_10 (by decide) rfl ?_
  refine Ew.iconst hx dX12_cancelNow_11 k_iconst_0 ?_
  refine Ew.istore_n hx dX12_cancelNow_12 (by decide) rfl ?_
  refine Ew.aload_n hx dX12_cancelNow_13 rfl ?_
  refine Ew.iload_n hx dX12_cancelNow_14 rfl ?_
  refine Ew.callV2 (y' := mX12_daysToCome) hx dX12_cancelNow_15 ml_RX12_115 cf_X12_daysToCome cv_X12_daysToCome (ct_X12_daysToCome G _ (hM.fV 182) hW hk) rfl oc_19 rfl (by decide) (by decide) rfl (Nat.le_of_ble_eq_true rfl) ?_
  rintro _ V9 ⟨rfl, h9⟩; subst V9
  refine Ew.istore hx dX12_cancelNow_18 (by decide) rfl ?_
  refine Ew.aload_n hx dX12_cancelNow_20 rfl ?_
  refine Ew.iload_n hx dX12_cancelNow_21 rfl ?_
  refine Ew.callV2 (y' := mX12_firstToCome) hx dX12_cancelNow_22 ml_RX12_119 cf_X12_firstToCome cv_X12_firstToCome (ct_X12_firstToCome G _ (hM.fV 182) hW hk) rfl oc_19 rfl (by decide) (by decide) rfl (Nat.le_of_ble_eq_true rfl) ?_
  rintro _ V9 ⟨rfl, h9⟩; subst V9
  refine Ew.istore hx dX12_cancelNow_25 (by decide) rfl ?_
  have hz := cl_0 hW hk (ftc s k) (Nat.le_refl _) (by omega)
  have hL0 : (0 : Int32) = cLv s k (ftc s k) := by
    unfold cLv
    rw [hz, Nat.sub_self]
    exact (show (0 : Int32) = 0 * pf s k 4 + 0 * (pf s k 4 / 2) by rw [Int32.zero_mul, Int32.zero_mul]; rfl)
  rw [hL0]
  refine lp_X12_can hM hW hk hp12 hr4 er hd.1 hla el (fun hcl => ?_) hx hq (laN s k + 1 - ftc s k) (ftc s k) (by omega) (Nat.le_refl _) (by omega)
  have hR0 := (hM.fV 182).row k
  have e7 : fV V s 182 533 (49 + 12 * k + 7) = prw s k 7 := hR0.rat hp12 (by decide)
  have eD : dtc s k = nI (laN s k + 1 - ftc s k) := by rw [hd.2.2, show laN s k - ftc s k + 1 = laN s k + 1 - ftc s k by omega]
  have eop : dtc s k - clI s (nI k) = nI (laN s k + 1 - ftc s k - clN s k (laN s k + 1)) := by
    unfold clI
    rw [en, eD, nI_sb hcl]
  have ecO : cLv s k (laN s k + 1) = cnO (prw s k) (dtc s k - clI s (nI k)) (clI s (nI k)) := by
    rw [eop]
    unfold clI cLv cnO
    rw [en]
    rfl
  have ean : anCancel s (nI k) = cLv s k (laN s k + 1) := by
    unfold anCancel
    rw [en]
    exact ecO.symm
  have ekp : dtc s k * pf s k 4 - cLv s k (laN s k + 1) = (dtc s k - clI s (nI k)) * (prw s k 4 - prw s k 4 / 2) := by
    rw [ecO]
    exact cn_kept _ _ _ _ _ (by rw [Int32.sub_add_cancel])
  unfold nxCancel at hq
  rw [en] at hq
  refine Ew.aload_n hx dX12_cancelNow_80 rfl ?_
  refine Ew.iload_n hx dX12_cancelNow_81 rfl ?_
  refine Ew.bipush hx dX12_cancelNow_82 k_bipush_7 ?_
  refine Ew.iload_n hx dX12_cancelNow_84 rfl ?_
  refine Ew.callV2 (y' := mX12_grow) hx dX12_cancelNow_85 ml_RX12_122 cf_X12_grow cv_X12_grow (ct_X12_grow G _ hp12 (j := 7) (by decide) _) rfl oc_19 rfl (by decide) (by decide) rfl (Nat.le_of_ble_eq_true rfl) ?_
  rintro _ V9 ⟨rfl, h9⟩; subst V9
  have hR1 := hR0.rput (j := 7) (by decide) (fV V s 182 533 (49 + 12 * k + 7) + cLv s k (laN s k + 1))
  rw [e7] at hR1
  refine Ew.aload_n hx dX12_cancelNow_88 rfl ?_
  refine Ew.iload_n hx dX12_cancelNow_89 rfl ?_
  refine Ew.bipush hx dX12_cancelNow_90 k_bipush_6 ?_
  refine Ew.iload hx dX12_cancelNow_92 rfl ?_
  refine Ew.iload_n hx dX12_cancelNow_94 rfl ?_
  refine Ew.imul hx dX12_cancelNow_95 ?_
  refine Ew.iload_n hx dX12_cancelNow_96 rfl ?_
  refine Ew.isub hx dX12_cancelNow_97 ?_
  refine Ew.callV2 (y' := mX12_grow) hx dX12_cancelNow_98 ml_RX12_122 cf_X12_grow cv_X12_grow (ct_X12_grow G _ hp12 (j := 6) (by decide) _) rfl oc_19 rfl (by decide) (by decide) rfl (Nat.le_of_ble_eq_true rfl) ?_
  rintro _ V9 ⟨rfl, h9⟩; subst V9
  have e6 : _ = prw s k 6 := (hR1.rat hp12 (j := 6) (by decide)).trans (upd_n _ _ (by decide))
  rw [e7]
  have hR2 := hR1.rput (j := 6) (by decide) (prw s k 6 + (dtc s k * pf s k 4 - cLv s k (laN s k + 1)))
  rw [e6]
  refine Ew.aload_n hx dX12_cancelNow_101 rfl ?_
  refine Ew.iload_n hx dX12_cancelNow_102 rfl ?_
  refine Ew.bipush hx dX12_cancelNow_103 k_bipush_11 ?_
  refine Ew.iconst hx dX12_cancelNow_105 k_iconst_1 ?_
  refine Ew.callV2 (y' := mX12_set) hx dX12_cancelNow_106 ml_RX12_101 cf_X12_set cv_X12_set (ct_X12_set G _ hp12 (j := 11) (by decide) _) rfl oc_19 rfl (by decide) (by decide) rfl (Nat.le_of_ble_eq_true rfl) ?_
  rintro _ V9 ⟨rfl, h9⟩; subst V9
  have hR3 := hR2.rput (j := 11) (by decide) 1
  refine Ew.iload_n hx dX12_cancelNow_109 rfl ?_
  refine Ew.iret hx hq dX12_cancelNow_110 rfl ?_
  rw [ean]
  refine ⟨rfl, hR3.rcg (fun j _ => ?_), fun q hq2 hq3 => by rw [mup_ne _ _ _ hq2, mup_ne _ _ _ hq2, mup_ne _ _ _ hq2, fV_o _ _ _ hq3]⟩
  rw [ekp]
  unfold cnF
  rw [← ecO]
set_option maxHeartbeats 4000000 in
set_option maxRecDepth 100000 in
theorem ct_X12_cancel (G : GT) (V : Mm) {s : Sv} {B : Int} {z : Nat} {h : Nat → Sv} (hM : MR V s) (hW : WF s B) (hS : MS V z h) (p : Int32) : Ct G mX12_cancel 4 [adr G 532, .int p] (V) (MAct V s z h (cdCancel s p) (anCancel s p) (nxCancel s p)) := by
  refine Ct.of cf_X12_cancel (List.forall_mem_cons.mpr ⟨rfl, List.forall_mem_cons.mpr ⟨rfl, fun _ h => absurd h List.not_mem_nil⟩⟩) (Nat.le_of_ble_eq_true rfl) (l0 := [some (adr G 532), some (.int p), none]) rfl (fun C hx hq => ?_)
  refine Ew.aload_n hx dX12_cancel_0 rfl ?_
  refine Ew.iconst hx dX12_cancel_1 k_iconst_0 ?_
  refine Ew.putI hx dX12_cancel_2 pg_RX12_31 rfl ?_
  refine Ew.aload_n hx dX12_cancel_5 rfl ?_
  refine Ew.iload_n hx dX12_cancel_6 rfl ?_
  refine Ew.callV2 (y' := mX12_cancelCode) hx dX12_cancel_7 ml_RX12_131 cf_X12_cancelCode cv_X12_cancelCode (ct_X12_cancelCode G _ hM.m0 hW p) rfl oc_19 rfl (by decide) (by decide) rfl (Nat.le_of_ble_eq_true rfl) ?_
  rintro _ V9 ⟨rfl, h9⟩; subst V9
  refine Ew.istore_n hx dX12_cancel_10 (by decide) rfl ?_
  refine Ew.iload_n hx dX12_cancel_11 rfl ?_
  refine Ew.if_ge hx (tgt := 17) dX12_cancel_12 rfl (fun h12 => ?_) (fun h12 => ?_)
  · have ok := cdE_ok (cdCancel_e s p) h12
    obtain ⟨k, hpk, hk⟩ := hW.pix (cif_0 ok).1
    have hd0 : ¬ dtc s k = 0 := fun q => by
      have q2 := (cif_0 ok).2
      rw [hpk, nt_nI (by have := hW.np.2; omega), cif_t q] at q2
      exact absurd q2 (by decide)
    rw [hpk] at ok
    refine Ew.aload_n hx dX12_cancel_17 rfl ?_
    refine Ew.callV2 (y' := mX12_act) hx dX12_cancel_18 ml_RX12_70 cf_X12_act cv_X12_act (ct_X12_act G _ hM.m0 hS.m0) rfl oc_19 rfl (by decide) (by decide) rfl (Nat.le_of_ble_eq_true rfl) ?_
    rintro v V2 hA; obtain rfl := hA.1; have hM2 := hA.mr hM.m0
    refine Ew.aload_n hx dX12_cancel_21 rfl ?_
    refine Ew.iload_n hx dX12_cancel_22 rfl ?_
    rw [hpk] at hq
    rw [hpk]
    refine Ew.callV2 (y' := mX12_cancelNow) hx dX12_cancel_23 ml_RX12_134 cf_X12_cancelNow cv_X12_cancelNow (ct_X12_cancelNow G V2 hM2 hW hk hd0) rfl oc_19 rfl (by decide) (by decide) rfl (Nat.le_of_ble_eq_true rfl) ?_
    rintro _ V3 ⟨rfl, hM3, hF3⟩
    refine Ew.iret hx hq dX12_cancel_26 rfl ?_
    exact mact_ok (fun _ _ => rfl) hA ok hM3 hF3
  · refine Ew.iload_n hx dX12_cancel_15 rfl ?_
    refine Ew.iret hx hq dX12_cancel_16 rfl ?_
    exact mact_no (fun _ _ => rfl) hM hS (by rw [il, tl_0]; rw [ie, tl_0] at h12; omega)
