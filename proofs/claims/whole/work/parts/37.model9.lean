theorem MR.row {V : Mm} {s : Sv} (h : MR V s) (k : Nat) : MR V (prow s k (prw s k)) := fun m hm => by
  rw [h m hm]
  unfold prow prw
  by_cases q : 49 + 12 * k ≤ m ∧ m < 49 + 12 * k + 12
  · rw [if_pos q]
    show s m = s (49 + 12 * k + (m - (49 + 12 * k)))
    rw [show 49 + 12 * k + (m - (49 + 12 * k)) = m by omega]
  · rw [if_neg q]
theorem MR.rput {V : Mm} {s : Sv} {k : Nat} {f : Nat → Int32} (h : MR V (prow s k f)) {j : Nat} (hj : j < 12) (v : Int32) : MR (_root_.Jvm.Pilot.@@N@@.mup V 533 (49 + 12 * k + j) v) (prow s k (upd f j v)) := fun m hm => by
  rw [mup_same]
  by_cases q : m = 49 + 12 * k + j
  · subst q
    rw [upd_s]
    unfold prow
    rw [if_pos (by omega), Nat.add_sub_cancel_left, upd_s]
  · rw [upd_n _ _ q, h m hm]
    unfold prow
    by_cases q2 : 49 + 12 * k ≤ m ∧ m < 49 + 12 * k + 12
    · rw [if_pos q2, if_pos q2, upd_n _ _ (by omega)]
    · rw [if_neg q2, if_neg q2]
theorem MR.rcg {V : Mm} {s : Sv} {k : Nat} {f g : Nat → Int32} (h : MR V (prow s k f)) (e : ∀ j, j < 12 → f j = g j) : MR V (prow s k g) := fun m hm => by
  rw [h m hm]
  unfold prow
  by_cases q2 : 49 + 12 * k ≤ m ∧ m < 49 + 12 * k + 12
  · rw [if_pos q2, if_pos q2, e _ (by omega)]
  · rw [if_neg q2, if_neg q2]
theorem MR.rat {V : Mm} {s : Sv} {k : Nat} {f : Nat → Int32} (h : MR V (prow s k f)) {j : Nat} (hk : k < 12) (hj : j < 12) : V 533 (49 + 12 * k + j) = f j := by
  rw [h _ (by omega)]
  unfold prow
  rw [if_pos (by omega), Nat.add_sub_cancel_left]
set_option maxHeartbeats 4000000 in
set_option maxRecDepth 100000 in
theorem ct_X12_moveNow (G : GT) (V : Mm) {s : Sv} {B : Int} (hM : MR V s) (hW : WF s B) {k r : Nat} (hk : k < npN s) (hr : r < nrN s) : Ct G mX12_moveNow 3 [adr G 532, .int (nI k), .int (nI r)] (V) (fun v V9 => v = some (.int (mvD s (nI k) (nI r))) ∧ MR V9 (nxMove s (nI k) (nI r)) ∧ ∀ k, k ≠ 533 → V9 k = V k) := by
  refine Ct.of cf_X12_moveNow (List.forall_mem_cons.mpr ⟨rfl, List.forall_mem_cons.mpr ⟨rfl, List.forall_mem_cons.mpr ⟨rfl, fun _ h => absurd h List.not_mem_nil⟩⟩⟩) (Nat.le_of_ble_eq_true rfl) (l0 := [some (adr G 532), some (.int (nI k)), some (.int (nI r)), none]) rfl (fun C hx hq => ?_)
  have hp12 : k < 12 := by have := hW.np.2; omega
  have hr4 : r < 4 := by have := hW.nr.2; omega
  have en : nt (nI k) = k := nt_nI (by omega)
  have em : nt (nI r) = r := nt_nI (by omega)
  unfold mvD nxMove at hq
  rw [en, em] at hq
  refine Ew.aload_n hx dX12_moveNow_0 rfl ?_
  refine Ew.iload_n hx dX12_moveNow_1 rfl ?_
  refine Ew.iconst hx dX12_moveNow_2 k_iconst_2 ?_
  refine Ew.callV2 (y' := mX12_ofRamp) hx dX12_moveNow_3 ml_RX12_50 cf_X12_ofRamp cv_X12_ofRamp (ct_X12_ofRamp G _ hr4 (j := 2) (by decide)) rfl oc_19 rfl (by decide) (by decide) rfl (Nat.le_of_ble_eq_true rfl) ?_
  rintro _ V9 ⟨rfl, h9⟩; subst V9
  rw [hM _ (by omega)]
  refine Ew.aload_n hx dX12_moveNow_6 rfl ?_
  refine Ew.iload_n hx dX12_moveNow_7 rfl ?_
  refine Ew.iconst hx dX12_moveNow_8 k_iconst_4 ?_
  refine Ew.callV2 (y' := mX12_of) hx dX12_moveNow_9 ml_RX12_53 cf_X12_of cv_X12_of (ct_X12_of G V hp12 (j := 4) (by decide)) rfl oc_19 rfl (by decide) (by decide) rfl (Nat.le_of_ble_eq_true rfl) ?_
  rintro _ V9 ⟨rfl, h9⟩; subst V9
  rw [hM _ (by omega)]
  refine Ew.isub hx dX12_moveNow_12 ?_
  refine Ew.aload_n hx dX12_moveNow_13 rfl ?_
  refine Ew.iload_n hx dX12_moveNow_14 rfl ?_
  refine Ew.callV2 (y' := mX12_daysToCome) hx dX12_moveNow_15 ml_RX12_115 cf_X12_daysToCome cv_X12_daysToCome (ct_X12_daysToCome G V hM hW hk) rfl oc_19 rfl (by decide) (by decide) rfl (Nat.le_of_ble_eq_true rfl) ?_
  rintro _ V9 ⟨rfl, h9⟩; subst V9
  refine Ew.imul hx dX12_moveNow_18 ?_
  refine Ew.istore_n hx dX12_moveNow_19 (by decide) rfl ?_
  have hR0 := hM.row k
  generalize hdf : (s (37 + 3 * r + 2) - s (49 + 12 * k + 4)) * dtc s k = df
  have hdf2 : (rf s r 2 - pf s k 4) * dtc s k = df := hdf
  unfold mvD at hq
  rw [en, em, hdf2] at hq
  refine Ew.iload_n hx dX12_moveNow_20 rfl ?_
  refine Ew.if_le hx (tgt := 34) dX12_moveNow_21 rfl (fun h21 => ?_) (fun h21 => ?_)
  · refine Ew.aload_n hx dX12_moveNow_34 rfl ?_
    refine Ew.iload_n hx dX12_moveNow_35 rfl ?_
    refine Ew.bipush hx dX12_moveNow_36 k_bipush_7 ?_
    refine Ew.iload_n hx dX12_moveNow_38 rfl ?_
    refine Ew.ineg hx dX12_moveNow_39 ?_
    refine Ew.callV2 (y' := mX12_grow) hx dX12_moveNow_40 ml_RX12_122 cf_X12_grow cv_X12_grow (ct_X12_grow G V hp12 (j := 7) (by decide) _) rfl oc_19 rfl (by decide) (by decide) rfl (Nat.le_of_ble_eq_true rfl) ?_
    rintro _ V9 ⟨rfl, h9⟩; subst V9
    have hR1 := hR0.rput (j := 7) (by decide) (V 533 (49 + 12 * k + 7) + -df)
    have eR : V 533 (49 + 12 * k + 7) = prw s k 7 := hR0.rat hp12 (by decide)
    refine Ew.aload_n hx dX12_moveNow_43 rfl ?_
    refine Ew.iload_n hx dX12_moveNow_44 rfl ?_
    refine Ew.iconst hx dX12_moveNow_45 k_iconst_0 ?_
    refine Ew.iload_n hx dX12_moveNow_46 rfl ?_
    refine Ew.callV2 (y' := mX12_set) hx dX12_moveNow_47 ml_RX12_101 cf_X12_set cv_X12_set (ct_X12_set G _ hp12 (j := 0) (by decide) _) rfl oc_19 rfl (by decide) (by decide) rfl (Nat.le_of_ble_eq_true rfl) ?_
    rintro _ V9 ⟨rfl, h9⟩; subst V9
    have hR2 := hR1.rput (j := 0) (by decide) (nI r)
    refine Ew.aload_n hx dX12_moveNow_50 rfl ?_
    refine Ew.iload_n hx dX12_moveNow_51 rfl ?_
    refine Ew.iconst hx dX12_moveNow_52 k_iconst_4 ?_
    refine Ew.aload_n hx dX12_moveNow_53 rfl ?_
    refine Ew.iload_n hx dX12_moveNow_54 rfl ?_
    refine Ew.iconst hx dX12_moveNow_55 k_iconst_2 ?_
    refine Ew.callV2 (y' := mX12_ofRamp) hx dX12_moveNow_56 ml_RX12_50 cf_X12_ofRamp cv_X12_ofRamp (ct_X12_ofRamp G _ hr4 (j := 2) (by decide)) rfl oc_19 rfl (by decide) (by decide) rfl (Nat.le_of_ble_eq_true rfl) ?_
    rintro _ V9 ⟨rfl, h9⟩; subst V9
    rw [hR2 _ (by omega), prow_lo _ _ _ _ (by omega)]
    refine Ew.callV2 (y' := mX12_set) hx dX12_moveNow_59 ml_RX12_101 cf_X12_set cv_X12_set (ct_X12_set G _ hp12 (j := 4) (by decide) _) rfl oc_19 rfl (by decide) (by decide) rfl (Nat.le_of_ble_eq_true rfl) ?_
    rintro _ V9 ⟨rfl, h9⟩; subst V9
    have hR3 := hR2.rput (j := 4) (by decide) (s (37 + 3 * r + 2))
    refine Ew.iload_n hx dX12_moveNow_62 rfl ?_
    refine Ew.iret hx hq dX12_moveNow_63 rfl ?_
    refine ⟨rfl, hR3.rcg (fun j _ => ?_), (fun q hq2 => by rw [mup_ne _ _ _ hq2, mup_ne _ _ _ hq2, mup_ne _ _ _ hq2])⟩
    unfold mvF
    first
      | rw [if_pos (show 0 < df by rw [il]; rw [ie] at h21; omega), eR]; rfl
      | rw [if_neg (show ¬ 0 < df by rw [il]; rw [ie] at h21; omega), eR, ← Int32.sub_eq_add_neg]; rfl
  · refine Ew.aload_n hx dX12_moveNow_24 rfl ?_
    refine Ew.iload_n hx dX12_moveNow_25 rfl ?_
    refine Ew.iconst hx dX12_moveNow_26 k_iconst_5 ?_
    refine Ew.iload_n hx dX12_moveNow_27 rfl ?_
    refine Ew.callV2 (y' := mX12_grow) hx dX12_moveNow_28 ml_RX12_122 cf_X12_grow cv_X12_grow (ct_X12_grow G V hp12 (j := 5) (by decide) _) rfl oc_19 rfl (by decide) (by decide) rfl (Nat.le_of_ble_eq_true rfl) ?_
    rintro _ V9 ⟨rfl, h9⟩; subst V9
    have hR1 := hR0.rput (j := 5) (by decide) (V 533 (49 + 12 * k + 5) + df)
    have eR : V 533 (49 + 12 * k + 5) = prw s k 5 := hR0.rat hp12 (by decide)
    refine Ew.goto hx (tgt := 43) dX12_moveNow_31 rfl ?_
    refine Ew.aload_n hx dX12_moveNow_43 rfl ?_
    refine Ew.iload_n hx dX12_moveNow_44 rfl ?_
    refine Ew.iconst hx dX12_moveNow_45 k_iconst_0 ?_
    refine Ew.iload_n hx dX12_moveNow_46 rfl ?_
    refine Ew.callV2 (y' := mX12_set) hx dX12_moveNow_47 ml_RX12_101 cf_X12_set cv_X12_set (ct_X12_set G _ hp12 (j := 0) (by decide) _) rfl oc_19 rfl (by decide) (by decide) rfl (Nat.le_of_ble_eq_true rfl) ?_
    rintro _ V9 ⟨rfl, h9⟩; subst V9
    have hR2 := hR1.rput (j := 0) (by decide) (nI r)
    refine Ew.aload_n hx dX12_moveNow_50 rfl ?_
    refine Ew.iload_n hx dX12_moveNow_51 rfl ?_
    refine Ew.iconst hx dX12_moveNow_52 k_iconst_4 ?_
    refine Ew.aload_n hx dX12_moveNow_53 rfl ?_
    refine Ew.iload_n hx dX12_moveNow_54 rfl ?_
    refine Ew.iconst hx dX12_moveNow_55 k_iconst_2 ?_
    refine Ew.callV2 (y' := mX12_ofRamp) hx dX12_moveNow_56 ml_RX12_50 cf_X12_ofRamp cv_X12_ofRamp (ct_X12_ofRamp G _ hr4 (j := 2) (by decide)) rfl oc_19 rfl (by decide) (by decide) rfl (Nat.le_of_ble_eq_true rfl) ?_
    rintro _ V9 ⟨rfl, h9⟩; subst V9
    rw [hR2 _ (by omega), prow_lo _ _ _ _ (by omega)]
    refine Ew.callV2 (y' := mX12_set) hx dX12_moveNow_59 ml_RX12_101 cf_X12_set cv_X12_set (ct_X12_set G _ hp12 (j := 4) (by decide) _) rfl oc_19 rfl (by decide) (by decide) rfl (Nat.le_of_ble_eq_true rfl) ?_
    rintro _ V9 ⟨rfl, h9⟩; subst V9
    have hR3 := hR2.rput (j := 4) (by decide) (s (37 + 3 * r + 2))
    refine Ew.iload_n hx dX12_moveNow_62 rfl ?_
    refine Ew.iret hx hq dX12_moveNow_63 rfl ?_
    refine ⟨rfl, hR3.rcg (fun j _ => ?_), (fun q hq2 => by rw [mup_ne _ _ _ hq2, mup_ne _ _ _ hq2, mup_ne _ _ _ hq2])⟩
    unfold mvF
    first
      | rw [if_pos (show 0 < df by rw [il]; rw [ie] at h21; omega), eR]; rfl
      | rw [if_neg (show ¬ 0 < df by rw [il]; rw [ie] at h21; omega), eR, ← Int32.sub_eq_add_neg]; rfl
set_option maxHeartbeats 4000000 in
set_option maxRecDepth 100000 in
theorem ct_X12_move (G : GT) (V : Mm) {s : Sv} {B : Int} {z : Nat} {h : Nat → Sv} (hM : MR V s) (hW : WF s B) (hS : MS V z h) (p x : Int32) : Ct G mX12_move 5 [adr G 532, .int p, .int x] (V) (MAct V s z h (cdMove s p x) (mvD s p x) (nxMove s p x)) := by
  refine Ct.of cf_X12_move (List.forall_mem_cons.mpr ⟨rfl, List.forall_mem_cons.mpr ⟨rfl, List.forall_mem_cons.mpr ⟨rfl, fun _ h => absurd h List.not_mem_nil⟩⟩⟩) (Nat.le_of_ble_eq_true rfl) (l0 := [some (adr G 532), some (.int p), some (.int x), none]) rfl (fun C hx hq => ?_)
  refine Ew.aload_n hx dX12_move_0 rfl ?_
  refine Ew.iconst hx dX12_move_1 k_iconst_0 ?_
  refine Ew.putI hx dX12_move_2 pg_RX12_31 rfl ?_
  refine Ew.aload_n hx dX12_move_5 rfl ?_
  refine Ew.iload_n hx dX12_move_6 rfl ?_
  refine Ew.iload_n hx dX12_move_7 rfl ?_
  refine Ew.callV2 (y' := mX12_moveCode) hx dX12_move_8 ml_RX12_125 cf_X12_moveCode cv_X12_moveCode (ct_X12_moveCode G _ hM.m0 hW p x) rfl oc_19 rfl (by decide) (by decide) rfl (Nat.le_of_ble_eq_true rfl) ?_
  rintro _ V1 ⟨rfl, hF1⟩
  have hF0 : V1 533 = V 533 := by rw [hF1 533 (by decide), mup_ne _ _ _ (by decide)]
  have hF4 : V1 532 4 = V 532 4 := by rw [hF1 532 (by decide), mup_oth _ _ _ _ (Or.inr (by decide))]
  have hF5 : V1 535 = V 535 := by rw [hF1 535 (by decide), mup_ne _ _ _ (by decide)]
  refine Ew.istore_n hx dX12_move_11 (by decide) rfl ?_
  refine Ew.iload_n hx dX12_move_12 rfl ?_
  refine Ew.if_ge hx (tgt := 18) dX12_move_13 rfl (fun h13 => ?_) (fun h13 => ?_)
  · have ok := cdE_ok (cdMove_e s p x) h13
    obtain ⟨r, hxr, hr⟩ := hW.rix (cif_0 ok).1.2
    obtain ⟨k, hpk, hk⟩ := hW.pix (cif_0 ok).1.1
    rw [hxr, hpk] at ok
    refine Ew.aload_n hx dX12_move_18 rfl ?_
    refine Ew.callV2 (y' := mX12_act) hx dX12_move_19 ml_RX12_70 cf_X12_act cv_X12_act (ct_X12_act G _ (hM.fr hF0) (hS.fr hF4 hF5)) rfl oc_19 rfl (by decide) (by decide) rfl (Nat.le_of_ble_eq_true rfl) ?_
    rintro v V2 hA; obtain rfl := hA.1; have hM2 := hA.mr (hM.fr hF0)
    refine Ew.aload_n hx dX12_move_22 rfl ?_
    refine Ew.iload_n hx dX12_move_23 rfl ?_
    refine Ew.iload_n hx dX12_move_24 rfl ?_
    rw [hxr, hpk] at hq
    rw [hxr, hpk]
    refine Ew.callV2 (y' := mX12_moveNow) hx dX12_move_25 ml_RX12_128 cf_X12_moveNow cv_X12_moveNow (ct_X12_moveNow G V2 hM2 hW hk hr) rfl oc_19 rfl (by decide) (by decide) rfl (Nat.le_of_ble_eq_true rfl) ?_
    rintro _ V3 ⟨rfl, hM3, hF3⟩
    refine Ew.iret hx hq dX12_move_28 rfl ?_
    exact mact_ok hF1 hA ok hM3 (fun k h1 _ => hF3 k h1)
  · refine Ew.iload_n hx dX12_move_16 rfl ?_
    refine Ew.iret hx hq dX12_move_17 rfl ?_
    exact mact_no hF1 hM hS (by rw [il, tl_0]; rw [ie, tl_0] at h13; omega)
