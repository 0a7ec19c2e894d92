set_option maxHeartbeats 4000000 in
set_option maxRecDepth 100000 in
theorem ct_X12_buyCode (G : GT) (V : Mm) {s : Sv} {B : Int} (hM : MR V s) (hW : WF s B) (x a b d : Int32) : Ct G mX12_buyCode 4 [adr G 532, .int x, .int a, .int b, .int d] (V) (fun v V9 => v = some (.int (cdBuy s x a b d)) ∧ ∀ k, k ≠ 536 → V9 k = V k) := by
  refine Ct.of cf_X12_buyCode (List.forall_mem_cons.mpr ⟨rfl, List.forall_mem_cons.mpr ⟨rfl, List.forall_mem_cons.mpr ⟨rfl, List.forall_mem_cons.mpr ⟨rfl, List.forall_mem_cons.mpr ⟨rfl, fun _ h => absurd h List.not_mem_nil⟩⟩⟩⟩⟩) (Nat.le_of_ble_eq_true rfl) (l0 := [some (adr G 532), some (.int x), some (.int a), some (.int b), some (.int d)]) rfl (fun C hx hq => ?_)
  refine Ew.aload_n hx dX12_buyCode_0 rfl ?_
  refine Ew.iload_n hx dX12_buyCode_1 rfl ?_
  refine Ew.callV2 (y' := mX12_isRamp) hx dX12_buyCode_2 ml_RX12_86 cf_X12_isRamp cv_X12_isRamp (ct_X12_isRamp G V hM hW x) rfl oc_19 rfl (by decide) (by decide) rfl (Nat.le_of_ble_eq_true rfl) ?_
  rintro _ V9 ⟨rfl, h9⟩; subst V9
  refine Ew.ifeq_b hx (tgt := 24) dX12_buyCode_5 rfl (fun h5 => ?_) (fun h5 => ?_)
  · have ec : cdBuy s x a b d = -100001 := cif_f (fun q => h5 q.1)
    refine Ew.ldc hx dX12_buyCode_24 kn_RX12_69 ?_
    refine Ew.iret hx hq dX12_buyCode_26 rfl ?_
    rw [ec]
    exact ⟨rfl, (fun k hk => by first | rfl | exact fV_o _ _ _ hk)⟩
  · refine Ew.iload_n hx dX12_buyCode_8 rfl ?_
    refine Ew.iload_n hx dX12_buyCode_9 rfl ?_
    refine Ew.callS (y' := mX12_isShort) hx dX12_buyCode_10 ml_RX12_90 cf_X12_isShort cs_X12_isShort (ct_X12_isShort G V a b) rfl (by decide) (by decide) rfl (Nat.le_of_ble_eq_true rfl) ?_
    rintro _ V9 ⟨rfl, h9⟩; subst V9
    refine Ew.ifeq_b hx (tgt := 24) dX12_buyCode_13 rfl (fun h13 => ?_) (fun h13 => ?_)
    · have ec : cdBuy s x a b d = -100001 := cif_f (fun q => h13 q.2.1)
      refine Ew.ldc hx dX12_buyCode_24 kn_RX12_69 ?_
      refine Ew.iret hx hq dX12_buyCode_26 rfl ?_
      rw [ec]
      exact ⟨rfl, (fun k hk => by first | rfl | exact fV_o _ _ _ hk)⟩
    · refine Ew.iload hx dX12_buyCode_16 rfl ?_
      refine Ew.callS (y' := mX12_isDraught) hx dX12_buyCode_18 ml_RX12_93 cf_X12_isDraught cs_X12_isDraught (ct_X12_isDraught G V d) rfl (by decide) (by decide) rfl (Nat.le_of_ble_eq_true rfl) ?_
      rintro _ V9 ⟨rfl, h9⟩; subst V9
      refine Ew.ifne_b hx (tgt := 27) dX12_buyCode_21 rfl (fun h21 => ?_) (fun h21 => ?_)
      · have ok : cdBuy s x a b d = _ := cif_t ⟨h5, h13, h21⟩
        obtain ⟨r, hxr, hr⟩ := hW.rix h5
        have hr4 : r < 4 := by have := hW.nr.2; omega
        have hxn : nt x = r := by rw [hxr, nt_nI (by omega)]
        rw [hxn] at ok
        obtain ⟨ea, eb, hab, hb⟩ := span_n h13
        have ht := hW.t
        have hft : fitQ s (-1) r (nt a) (nt b) d ↔ fitP s r (nt a) (nt b) d := fitQ_e (fun p hp _ e => by have := hW.np.2; rw [iq, tn (by omega)] at e; exact absurd e (by rw [show (-1 : Int32).toInt = -1 by decide]; omega))
        refine Ew.iload_n hx dX12_buyCode_27 rfl ?_
        refine Ew.aload_n hx dX12_buyCode_28 rfl ?_
        refine Ew.getR (533) hx dX12_buyCode_29 fg_RX12_7 rfl rfl ?_
        refine Ew.iconst hx dX12_buyCode_32 k_iconst_0 ?_
        refine Ew.iald (i := 0) hx dX12_buyCode_33 ag_20 rfl (rfl) (by decide) ?_
        rw [hM 0 (by decide)]
        refine Ew.icmp_lt hx (tgt := 50) dX12_buyCode_34 rfl (fun h34 => ?_) (fun h34 => ?_)
        · have ec : cdBuy s x a b d = -100002 := ok.trans (cif_f (fun q => by have q1 := q.1; rw [ie] at q1; rw [il] at h34; omega))
          refine Ew.ldc hx dX12_buyCode_50 kn_RX12_100 ?_
          refine Ew.iret hx hq dX12_buyCode_52 rfl ?_
          rw [ec]
          exact ⟨rfl, (fun k hk => by first | rfl | exact fV_o _ _ _ hk)⟩
        · have ha : s 0 ≤ a := by rw [ie]; rw [il] at h34; omega
          have hta : tN s ≤ nt a := by
            have q := ha
            rw [ie, ht.1, ea, tn (by omega), tn (by omega)] at q
            omega
          refine Ew.aload_n hx dX12_buyCode_37 rfl ?_
          refine Ew.iconst hx dX12_buyCode_38 k_iconst_m1 ?_
          refine Ew.iload_n hx dX12_buyCode_39 rfl ?_
          refine Ew.iload_n hx dX12_buyCode_40 rfl ?_
          refine Ew.iload_n hx dX12_buyCode_41 rfl ?_
          refine Ew.iload hx dX12_buyCode_42 rfl ?_
          rw [hxr, ea, eb]
          refine Ew.callV2 (y' := mX12_fits) hx dX12_buyCode_44 ml_RX12_96 cf_X12_fits cv_X12_fits (ct_X12_fits G V hM hW (-1) d hr4 hta hab hb) rfl oc_19 rfl (by decide) (by decide) rfl (Nat.le_of_ble_eq_true rfl) ?_
          rintro _ V9 ⟨rfl, h9⟩; subst V9
          refine Ew.ifne_b hx (tgt := 53) dX12_buyCode_47 rfl (fun h47 => ?_) (fun h47 => ?_)
          · have ec : cdBuy s x a b d = cif (s 3 = 12) (-100003) 0 := ok.trans (cif_t ⟨ha, hft.mp h47⟩)
            refine Ew.aload_n hx dX12_buyCode_53 rfl ?_
            refine Ew.getR (533) hx dX12_buyCode_54 fg_RX12_7 rfl rfl ?_
            refine Ew.iconst hx dX12_buyCode_57 k_iconst_3 ?_
            refine Ew.iald (i := 3) hx dX12_buyCode_58 ag_20 rfl (rfl) (by decide) ?_
            rw [hM.fV 182 3 (by decide)]
            refine Ew.bipush hx dX12_buyCode_59 k_bipush_12 ?_
            refine Ew.icmp_ne hx (tgt := 69) dX12_buyCode_61 rfl (fun h61 => ?_) (fun h61 => ?_)
            · refine Ew.iconst hx dX12_buyCode_69 k_iconst_0 ?_
              refine Ew.iret hx hq dX12_buyCode_70 rfl ?_
              rw [ec]
              first | (rw [cif_t h61]; exact ⟨rfl, (fun k hk => by first | rfl | exact fV_o _ _ _ hk)⟩) | (rw [cif_f h61]; exact ⟨rfl, (fun k hk => by first | rfl | exact fV_o _ _ _ hk)⟩)
            · refine Ew.ldc hx dX12_buyCode_64 kn_RX12_79 ?_
              refine Ew.goto hx (tgt := 70) dX12_buyCode_66 rfl ?_
              refine Ew.iret hx hq dX12_buyCode_70 rfl ?_
              rw [ec]
              first | (rw [cif_t h61]; exact ⟨rfl, (fun k hk => by first | rfl | exact fV_o _ _ _ hk)⟩) | (rw [cif_f h61]; exact ⟨rfl, (fun k hk => by first | rfl | exact fV_o _ _ _ hk)⟩)
          · have ec : cdBuy s x a b d = -100002 := ok.trans (cif_f (fun q => h47 (hft.mpr q.2)))
            refine Ew.ldc hx dX12_buyCode_50 kn_RX12_100 ?_
            refine Ew.iret hx hq dX12_buyCode_52 rfl ?_
            rw [ec]
            exact ⟨rfl, (fun k hk => by first | rfl | exact fV_o _ _ _ hk)⟩
      · have ec : cdBuy s x a b d = -100001 := cif_f (fun q => h21 q.2.2)
        refine Ew.ldc hx dX12_buyCode_24 kn_RX12_69 ?_
        refine Ew.iret hx hq dX12_buyCode_26 rfl ?_
        rw [ec]
        exact ⟨rfl, (fun k hk => by first | rfl | exact fV_o _ _ _ hk)⟩
