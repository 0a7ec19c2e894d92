set_option maxHeartbeats 4000000 in
set_option maxRecDepth 100000 in
theorem mvc_0 {G : GT} {C : CT} {V : Mm} {s : Sv} {p x y w : Int32} (ec : cdMove s p x = -100002) (hx : Cx G mX12_moveCode 4 C) (hq : Cq G (fun v V9 => v = some (.int (cdMove s p x)) ∧ ∀ k, k ≠ 536 → V9 k = V k) C) : Ew G C V 41 [some (adr G 532), some (.int y), some (.int w), none] [] := by
  refine Ew.iconst hx dX12_moveCode_41 k_iconst_0 ?_
  refine Ew.istore_n hx dX12_moveCode_42 (by decide) rfl ?_
  refine Ew.iload_n hx dX12_moveCode_43 rfl ?_
  refine Ew.if_eq_t hx (tgt := 77) dX12_moveCode_44 rfl (rfl) ?_
  refine Ew.ldc hx dX12_moveCode_77 kn_RX12_100 ?_
  refine Ew.iret hx hq dX12_moveCode_79 rfl ?_
  rw [ec]
  exact ⟨rfl, (fun k hk => by first | rfl | exact fV_o _ _ _ hk)⟩
set_option maxHeartbeats 4000000 in
set_option maxRecDepth 100000 in
theorem ct_X12_moveCode (G : GT) (V : Mm) {s : Sv} {B : Int} (hM : MR V s) (hW : WF s B) (p x : Int32) : Ct G mX12_moveCode 4 [adr G 532, .int p, .int x] (V) (fun v V9 => v = some (.int (cdMove s p x)) ∧ ∀ k, k ≠ 536 → V9 k = V k) := by
  refine Ct.of cf_X12_moveCode (List.forall_mem_cons.mpr ⟨rfl, List.forall_mem_cons.mpr ⟨rfl, List.forall_mem_cons.mpr ⟨rfl, fun _ h => absurd h List.not_mem_nil⟩⟩⟩) (Nat.le_of_ble_eq_true rfl) (l0 := [some (adr G 532), some (.int p), some (.int x), none]) rfl (fun C hx hq => ?_)
  refine Ew.aload_n hx dX12_moveCode_0 rfl ?_
  refine Ew.iload_n hx dX12_moveCode_1 rfl ?_
  refine Ew.callV2 (y' := mX12_isPermit) hx dX12_moveCode_2 ml_RX12_112 cf_X12_isPermit cv_X12_isPermit (ct_X12_isPermit G V hM hW p) rfl oc_19 rfl (by decide) (by decide) rfl (Nat.le_of_ble_eq_true rfl) ?_
  rintro _ V9 ⟨rfl, h9⟩; subst V9
  refine Ew.ifeq_b hx (tgt := 16) dX12_moveCode_5 rfl (fun h5 => ?_) (fun h5 => ?_)
  · have ec : cdMove s p x = -100001 := cif_f (fun q => h5 q.1)
    refine Ew.ldc hx dX12_moveCode_16 kn_RX12_69 ?_
    refine Ew.iret hx hq dX12_moveCode_18 rfl ?_
    rw [ec]
    exact ⟨rfl, (fun k hk => by first | rfl | exact fV_o _ _ _ hk)⟩
  · refine Ew.aload_n hx dX12_moveCode_8 rfl ?_
    refine Ew.iload_n hx dX12_moveCode_9 rfl ?_
    refine Ew.callV2 (y' := mX12_isRamp) hx dX12_moveCode_10 ml_RX12_86 cf_X12_isRamp cv_X12_isRamp (ct_X12_isRamp G V hM hW x) rfl oc_19 rfl (by decide) (by decide) rfl (Nat.le_of_ble_eq_true rfl) ?_
    rintro _ V9 ⟨rfl, h9⟩; subst V9
    refine Ew.ifne_b hx (tgt := 19) dX12_moveCode_13 rfl (fun h13 => ?_) (fun h13 => ?_)
    · have ok : cdMove s p x = _ := cif_t ⟨h5, h13⟩
      obtain ⟨r, hxr, hr⟩ := hW.rix h13
      have hr4 : r < 4 := by have := hW.nr.2; omega
      have hxn : nt x = r := by rw [hxr, nt_nI (by omega)]
      obtain ⟨k, hpk, hk⟩ := hW.pix h5
      have hp12 : k < 12 := by have := hW.np.2; omega
      have hpn : nt p = k := by rw [hpk, nt_nI (by omega)]
      rw [hxn, hpn] at ok
      have hdc := dtc_cases hW hk
      have hla : laN s k ≤ 181 ∧ pf s k 2 = nI (laN s k) := by
        obtain ⟨r1, a1, b1, er, hr1, ea, eb, hab, hb, -⟩ := hW.pn hk
        have e : laN s k = b1 := by unfold laN; rw [eb, tn (by omega)]; rfl
        rw [e]
        exact ⟨hb, eb⟩
      refine Ew.aload_n hx dX12_moveCode_19 rfl ?_
      refine Ew.iload_n hx dX12_moveCode_20 rfl ?_
      rw [hpk]
      refine Ew.callV2 (y' := mX12_daysToCome) hx dX12_moveCode_21 ml_RX12_115 cf_X12_daysToCome cv_X12_daysToCome (ct_X12_daysToCome G V hM hW hk) rfl oc_19 rfl (by decide) (by decide) rfl (Nat.le_of_ble_eq_true rfl) ?_
      rintro _ V9 ⟨rfl, h9⟩; subst V9
      refine Ew.if_le hx (tgt := 41) dX12_moveCode_24 rfl (fun h24 => ?_) (fun h24 => ?_)
      · have h0 : dtc s k = 0 := by
          rcases hdc with q | q
          · exact q.1
          · rw [q.2.2.2, ie, tl_0, tn (by have := hla.1; omega)] at h24
            omega
        have ec : cdMove s p x = -100002 := ok.trans (cif_f (fun q => q.1 h0))
        exact mvc_0 ec hx hq
      · have h0 : ¬ dtc s k = 0 := fun q => by rw [q] at h24; exact h24 (by decide)
        have hd := (hdc.resolve_left (fun q => h0 q.1)).2
        refine Ew.aload_n hx dX12_moveCode_27 rfl ?_
        refine Ew.iload_n hx dX12_moveCode_28 rfl ?_
        refine Ew.iconst hx dX12_moveCode_29 k_iconst_0 ?_
        refine Ew.callV2 (y' := mX12_of) hx dX12_moveCode_30 ml_RX12_53 cf_X12_of cv_X12_of (ct_X12_of G V hp12 (j := 0) (by decide)) rfl oc_19 rfl (by decide) (by decide) rfl (Nat.le_of_ble_eq_true rfl) ?_
        rintro _ V9 ⟨rfl, h9⟩; subst V9
        rw [hM _ (by omega)]
        refine Ew.iload_n hx dX12_moveCode_33 rfl ?_
        refine Ew.icmp_eq hx (tgt := 41) dX12_moveCode_34 rfl (fun h34 => ?_) (fun h34 => ?_)
        · have ec : cdMove s p x = -100002 := ok.trans (cif_f (fun q => q.2.1 h34))
          exact mvc_0 ec hx hq
        · refine Ew.iconst hx dX12_moveCode_37 k_iconst_1 ?_
          refine Ew.goto hx (tgt := 42) dX12_moveCode_38 rfl ?_
          refine Ew.istore_n hx dX12_moveCode_42 (by decide) rfl ?_
          refine Ew.iload_n hx dX12_moveCode_43 rfl ?_
          refine Ew.if_eq_f hx (tgt := 77) dX12_moveCode_44 rfl (by decide) ?_
          have hlA := hla.2
          have hfq : fitQ s (nI k) r (ftc s k) (laN s k) (pf s k 3) ↔ fitP s r (ftc s k) (laN s k) (pf s k 3) := fitQ_e (fun j hj e1 e2 => by
            have e3 : j = k := (nI_eq (by have := hW.np.2; omega) (by omega)).mp e2
            rw [e3] at e1
            exact h34 (e1.trans hxr.symm))
          refine Ew.aload_n hx dX12_moveCode_47 rfl ?_
          refine Ew.iload_n hx dX12_moveCode_48 rfl ?_
          refine Ew.iload_n hx dX12_moveCode_49 rfl ?_
          refine Ew.aload_n hx dX12_moveCode_50 rfl ?_
          refine Ew.iload_n hx dX12_moveCode_51 rfl ?_
          refine Ew.callV2 (y' := mX12_firstToCome) hx dX12_moveCode_52 ml_RX12_119 cf_X12_firstToCome cv_X12_firstToCome (ct_X12_firstToCome G V hM hW hk) rfl oc_19 rfl (by decide) (by decide) rfl (Nat.le_of_ble_eq_true rfl) ?_
          rintro _ V9 ⟨rfl, h9⟩; subst V9
          refine Ew.aload_n hx dX12_moveCode_55 rfl ?_
          refine Ew.iload_n hx dX12_moveCode_56 rfl ?_
          refine Ew.iconst hx dX12_moveCode_57 k_iconst_2 ?_
          refine Ew.callV2 (y' := mX12_of) hx dX12_moveCode_58 ml_RX12_53 cf_X12_of cv_X12_of (ct_X12_of G V hp12 (j := 2) (by decide)) rfl oc_19 rfl (by decide) (by decide) rfl (Nat.le_of_ble_eq_true rfl) ?_
          rintro _ V9 ⟨rfl, h9⟩; subst V9
          rw [hM _ (by omega), show s (49 + 12 * k + 2) = nI (laN s k) from hlA]
          refine Ew.aload_n hx dX12_moveCode_61 rfl ?_
          refine Ew.iload_n hx dX12_moveCode_62 rfl ?_
          refine Ew.iconst hx dX12_moveCode_63 k_iconst_3 ?_
          refine Ew.callV2 (y' := mX12_of) hx dX12_moveCode_64 ml_RX12_53 cf_X12_of cv_X12_of (ct_X12_of G V hp12 (j := 3) (by decide)) rfl oc_19 rfl (by decide) (by decide) rfl (Nat.le_of_ble_eq_true rfl) ?_
          rintro _ V9 ⟨rfl, h9⟩; subst V9
          rw [hM _ (by omega)]
          rw [hxr]
          refine Ew.callV2 (y' := mX12_fits) hx dX12_moveCode_67 ml_RX12_96 cf_X12_fits cv_X12_fits (ct_X12_fits G V hM hW (nI k) (s (49 + 12 * k + 3)) hr4 (ftc_t s k).1 hd.2.1 hla.1) rfl oc_19 rfl (by decide) (by decide) rfl (Nat.le_of_ble_eq_true rfl) ?_
          rintro _ V9 ⟨rfl, h9⟩; subst V9
          refine Ew.ifeq_b hx (tgt := 77) dX12_moveCode_70 rfl (fun h70 => ?_) (fun h70 => ?_)
          · have ec : cdMove s p x = -100002 := ok.trans (cif_f (fun q => h70 (hfq.mpr q.2.2)))
            refine Ew.ldc hx dX12_moveCode_77 kn_RX12_100 ?_
            refine Ew.iret hx hq dX12_moveCode_79 rfl ?_
            rw [ec]
            exact ⟨rfl, (fun k hk => by first | rfl | exact fV_o _ _ _ hk)⟩
          · have ec : cdMove s p x = 0 := ok.trans (cif_t ⟨h0, h34, hfq.mp h70⟩)
            refine Ew.iconst hx dX12_moveCode_73 k_iconst_0 ?_
            refine Ew.goto hx (tgt := 79) dX12_moveCode_74 rfl ?_
            refine Ew.iret hx hq dX12_moveCode_79 rfl ?_
            rw [ec]
            exact ⟨rfl, (fun k hk => by first | rfl | exact fV_o _ _ _ hk)⟩
    · have ec : cdMove s p x = -100001 := cif_f (fun q => h13 q.2)
      refine Ew.ldc hx dX12_moveCode_16 kn_RX12_69 ?_
      refine Ew.iret hx hq dX12_moveCode_18 rfl ?_
      rw [ec]
      exact ⟨rfl, (fun k hk => by first | rfl | exact fV_o _ _ _ hk)⟩
