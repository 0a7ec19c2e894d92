set_option maxHeartbeats 4000000 in
set_option maxRecDepth 100000 in
theorem ct_X2_amountFor (G : GT) (V : Mm) (i : Nat) (x : Int32) (hi : i < 3) (ex : x = nI (i + 1)) : Ct G mX2_amountFor 1 [adr G 5, .int x] (V) (Ri (V 6 i) V) := by
  refine Ct.of cf_X2_amountFor (List.forall_mem_cons.mpr ⟨rfl, List.forall_mem_cons.mpr ⟨rfl, fun _ h => absurd h List.not_mem_nil⟩⟩) (Nat.le_of_ble_eq_true rfl) (l0 := [some (adr G 5), some (.int x)]) rfl (fun C hx hq => ?_)
  subst ex
  refine Ew.iload_n hx dX2_amountFor_0 rfl ?_
  refine Ew.iconst hx dX2_amountFor_1 k_iconst_1 ?_
  refine Ew.iconst hx dX2_amountFor_2 k_iconst_3 ?_
  refine Ew.callSN (y' := mX11_isWithin) hx dX2_amountFor_3 (host := RX11) (List.mem_of_getElem? (i := 7) rfl) cf_X11_isWithin cs_X11_isWithin (ct_X11_isWithin G _ _ _ _) rfl (by decide) (by decide) rfl (Nat.le_of_ble_eq_true rfl) ?_
  rintro _ V9 ⟨rfl, h9⟩; subst V9
  rw [b2i_t (⟨by rw [ie, tn (by omega), tl_1]; omega, by rw [ie, tn (by omega), tl_3]; omega⟩)]
  refine Ew.if_eq_f hx (tgt := 20) dX2_amountFor_6 rfl (by decide) ?_
  refine Ew.aload_n hx dX2_amountFor_9 rfl ?_
  refine Ew.getR (6) hx dX2_amountFor_10 fg_RX2_9 rfl rfl ?_
  refine Ew.iload_n hx dX2_amountFor_13 rfl ?_
  refine Ew.iconst hx dX2_amountFor_14 k_iconst_1 ?_
  refine Ew.isub hx dX2_amountFor_15 ?_
  refine Ew.iald (i := i) hx dX2_amountFor_16 ag_6 rfl (nI_pred i) (hi) ?_
  refine Ew.goto hx (tgt := 21) dX2_amountFor_17 rfl ?_
  refine Ew.iret hx hq dX2_amountFor_21 rfl ?_
  exact ⟨rfl, rfl⟩
set_option maxHeartbeats 4000000 in
set_option maxRecDepth 100000 in
theorem ct_X2_timesFor (G : GT) (V : Mm) (i : Nat) (x : Int32) (hi : i < 3) (ex : x = nI (i + 1)) : Ct G mX2_timesFor 1 [adr G 5, .int x] (V) (Ri (V 7 i) V) := by
  refine Ct.of cf_X2_timesFor (List.forall_mem_cons.mpr ⟨rfl, List.forall_mem_cons.mpr ⟨rfl, fun _ h => absurd h List.not_mem_nil⟩⟩) (Nat.le_of_ble_eq_true rfl) (l0 := [some (adr G 5), some (.int x)]) rfl (fun C hx hq => ?_)
  subst ex
  refine Ew.iload_n hx dX2_timesFor_0 rfl ?_
  refine Ew.iconst hx dX2_timesFor_1 k_iconst_1 ?_
  refine Ew.iconst hx dX2_timesFor_2 k_iconst_3 ?_
  refine Ew.callSN (y' := mX11_isWithin) hx dX2_timesFor_3 (host := RX11) (List.mem_of_getElem? (i := 7) rfl) cf_X11_isWithin cs_X11_isWithin (ct_X11_isWithin G _ _ _ _) rfl (by decide) (by decide) rfl (Nat.le_of_ble_eq_true rfl) ?_
  rintro _ V9 ⟨rfl, h9⟩; subst V9
  rw [b2i_t (⟨by rw [ie, tn (by omega), tl_1]; omega, by rw [ie, tn (by omega), tl_3]; omega⟩)]
  refine Ew.if_eq_f hx (tgt := 20) dX2_timesFor_6 rfl (by decide) ?_
  refine Ew.aload_n hx dX2_timesFor_9 rfl ?_
  refine Ew.getR (7) hx dX2_timesFor_10 fg_RX2_15 rfl rfl ?_
  refine Ew.iload_n hx dX2_timesFor_13 rfl ?_
  refine Ew.iconst hx dX2_timesFor_14 k_iconst_1 ?_
  refine Ew.isub hx dX2_timesFor_15 ?_
  refine Ew.iald (i := i) hx dX2_timesFor_16 ag_6 rfl (nI_pred i) (hi) ?_
  refine Ew.goto hx (tgt := 21) dX2_timesFor_17 rfl ?_
  refine Ew.iret hx hq dX2_timesFor_21 rfl ?_
  exact ⟨rfl, rfl⟩
set_option maxHeartbeats 4000000 in
set_option maxRecDepth 100000 in
theorem ct_X2_changeAmount (G : GT) (V : Mm) {s : Sv} (hR : Rep V 2 s) (x a : Int32) : Ct G mX2_changeAmount 1 [adr G 5, .int x, .int a] (V) (Pst V (cdFine x a) (s (4 + (nt x - 1))) (upd s (4 + (nt x - 1)) a)) := by
  refine Ct.of cf_X2_changeAmount (List.forall_mem_cons.mpr ⟨rfl, List.forall_mem_cons.mpr ⟨rfl, List.forall_mem_cons.mpr ⟨rfl, fun _ h => absurd h List.not_mem_nil⟩⟩⟩) (Nat.le_of_ble_eq_true rfl) (l0 := [some (adr G 5), some (.int x), some (.int a), none]) rfl (fun C hx hq => ?_)
  refine Ew.iload_n hx dX2_changeAmount_0 rfl ?_
  refine Ew.iconst hx dX2_changeAmount_1 k_iconst_1 ?_
  refine Ew.iconst hx dX2_changeAmount_2 k_iconst_3 ?_
  refine Ew.callSN (y' := mX11_isWithin) hx dX2_changeAmount_3 (host := RX11) (List.mem_of_getElem? (i := 7) rfl) cf_X11_isWithin cs_X11_isWithin (ct_X11_isWithin G _ _ _ _) rfl (by decide) (by decide) rfl (Nat.le_of_ble_eq_true rfl) ?_
  rintro _ V9 ⟨rfl, h9⟩; subst V9
  refine Ew.ifeq_b hx (tgt := 20) dX2_changeAmount_6 rfl (fun h6 => ?_) (fun h6 => ?_)
  · have ec : cdFine x a = -100001 := cif_f (fun q => h6 q.1)
    refine Ew.ldc hx dX2_changeAmount_20 kn_RX2_32 ?_
    refine Ew.iret hx hq dX2_changeAmount_22 rfl ?_
    exact Or.inl ⟨by rw [ec]; decide, by rw [ec], rfl⟩
  · have h6a := h6
    rw [ie, ie, tl_1, tl_3] at h6a
    have hi : nt x - 1 < 3 := by unfold nt; omega
    have ex : x = nI (nt x - 1 + 1) := by
      rw [show nt x - 1 + 1 = nt x by unfold nt; omega]
      exact ofNI (by omega)
    have ej : x - 1 = nI (nt x - 1) := by
      have q := nI_pred (nt x - 1)
      rw [← ex] at q
      exact q
    refine Ew.iload_n hx dX2_changeAmount_9 rfl ?_
    refine Ew.iconst hx dX2_changeAmount_10 k_iconst_0 ?_
    refine Ew.sipush hx dX2_changeAmount_11 k_sipush_500 ?_
    refine Ew.callSN (y' := mX11_isWithin) hx dX2_changeAmount_14 (host := RX11) (List.mem_of_getElem? (i := 7) rfl) cf_X11_isWithin cs_X11_isWithin (ct_X11_isWithin G _ _ _ _) rfl (by decide) (by decide) rfl (Nat.le_of_ble_eq_true rfl) ?_
    rintro _ V9 ⟨rfl, h9⟩; subst V9
    refine Ew.ifne_b hx (tgt := 23) dX2_changeAmount_17 rfl (fun h17 => ?_) (fun h17 => ?_)
    · refine Ew.aload_n hx dX2_changeAmount_23 rfl ?_
      refine Ew.getR (6) hx dX2_changeAmount_24 fg_RX2_9 rfl rfl ?_
      refine Ew.iload_n hx dX2_changeAmount_27 rfl ?_
      refine Ew.iconst hx dX2_changeAmount_28 k_iconst_1 ?_
      refine Ew.isub hx dX2_changeAmount_29 ?_
      refine Ew.iald (i := nt x - 1) hx dX2_changeAmount_30 ag_6 rfl (ej) (hi) ?_
      refine Ew.istore_n hx dX2_changeAmount_31 (by decide) rfl ?_
      refine Ew.aload_n hx dX2_changeAmount_32 rfl ?_
      refine Ew.getR (6) hx dX2_changeAmount_33 fg_RX2_9 rfl rfl ?_
      refine Ew.iload_n hx dX2_changeAmount_36 rfl ?_
      refine Ew.iconst hx dX2_changeAmount_37 k_iconst_1 ?_
      refine Ew.isub hx dX2_changeAmount_38 ?_
      refine Ew.iload_n hx dX2_changeAmount_39 rfl ?_
      refine Ew.iast (i := nt x - 1) hx dX2_changeAmount_40 ag_6 rfl (ej) (hi) ?_
      refine Ew.iload_n hx dX2_changeAmount_41 rfl ?_
      refine Ew.iret hx hq dX2_changeAmount_42 rfl ?_
      exact Or.inr ⟨cif_t ⟨h6, h17⟩, by rw [hR.amt hi], hR.put (4 + (nt x - 1)) a (by omega) (by omega) (by omega) (cl_am hi).1 (cl_am hi).2, Fr.rfl'.mup (by decide)⟩
    · have ec : cdFine x a = -100001 := cif_f (fun q => h17 q.2)
      refine Ew.ldc hx dX2_changeAmount_20 kn_RX2_32 ?_
      refine Ew.iret hx hq dX2_changeAmount_22 rfl ?_
      exact Or.inl ⟨by rw [ec]; decide, by rw [ec], rfl⟩
set_option maxHeartbeats 4000000 in
set_option maxRecDepth 100000 in
theorem ct_X2_impose (G : GT) (V : Mm) (x : Int32) (h03 : x = 0 ∨ ∃ i, i < 3 ∧ x = nI (i + 1)) : Ct G mX2_impose 1 [adr G 5, .int x] (V) (Ri (cif (x = 0) 0 (V 6 (nt x - 1))) (cif (x = 0) V (mup (mup V 7 (nt x - 1) (V 7 (nt x - 1) + 1)) 5 2 (V 5 2 + V 6 (nt x - 1))))) := by
  refine Ct.of cf_X2_impose (List.forall_mem_cons.mpr ⟨rfl, List.forall_mem_cons.mpr ⟨rfl, fun _ h => absurd h List.not_mem_nil⟩⟩) (Nat.le_of_ble_eq_true rfl) (l0 := [some (adr G 5), some (.int x)]) rfl (fun C hx hq => ?_)
  refine Ew.iload_n hx dX2_impose_0 rfl ?_
  refine Ew.iconst hx dX2_impose_1 k_iconst_1 ?_
  refine Ew.iconst hx dX2_impose_2 k_iconst_3 ?_
  refine Ew.callSN (y' := mX11_isWithin) hx dX2_impose_3 (host := RX11) (List.mem_of_getElem? (i := 7) rfl) cf_X11_isWithin cs_X11_isWithin (ct_X11_isWithin G _ _ _ _) rfl (by decide) (by decide) rfl (Nat.le_of_ble_eq_true rfl) ?_
  rintro _ V9 ⟨rfl, h9⟩; subst V9
  refine Ew.ifne_b hx (tgt := 11) dX2_impose_6 rfl (fun h6 => ?_) (fun h6 => ?_)
  · have h6a := h6
    rw [ie, ie, tl_1, tl_3] at h6a
    have hi : nt x - 1 < 3 := by unfold nt; omega
    have ex : x = nI (nt x - 1 + 1) := by
      rw [show nt x - 1 + 1 = nt x by unfold nt; omega]
      exact ofNI (by omega)
    have ej : x - 1 = nI (nt x - 1) := by
      have q := nI_pred (nt x - 1)
      rw [← ex] at q
      exact q
    have e0 : ¬ x = 0 := fun q => by rw [q, tl_0] at h6a; omega
    refine Ew.aload_n hx dX2_impose_11 rfl ?_
    refine Ew.getR (7) hx dX2_impose_12 fg_RX2_15 rfl rfl ?_
    refine Ew.iload_n hx dX2_impose_15 rfl ?_
    refine Ew.iconst hx dX2_impose_16 k_iconst_1 ?_
    refine Ew.isub hx dX2_impose_17 ?_
    refine Ew.dup2 hx dX2_impose_18 rfl rfl ?_
    refine Ew.iald (i := nt x - 1) hx dX2_impose_19 ag_6 rfl (ej) (hi) ?_
    refine Ew.iconst hx dX2_impose_20 k_iconst_1 ?_
    refine Ew.iadd hx dX2_impose_21 ?_
    refine Ew.iast (i := nt x - 1) hx dX2_impose_22 ag_6 rfl (ej) (hi) ?_
    refine Ew.aload_n hx dX2_impose_23 rfl ?_
    refine Ew.dup hx dX2_impose_24 rfl ?_
    refine Ew.getI hx dX2_impose_25 fg_RX2_24 rfl ?_
    refine Ew.aload_n hx dX2_impose_28 rfl ?_
    refine Ew.getR (6) hx dX2_impose_29 fg_RX2_9 rfl rfl ?_
    refine Ew.iload_n hx dX2_impose_32 rfl ?_
    refine Ew.iconst hx dX2_impose_33 k_iconst_1 ?_
    refine Ew.isub hx dX2_impose_34 ?_
    refine Ew.iald (i := nt x - 1) hx dX2_impose_35 ag_6 rfl (ej) (hi) ?_
    refine Ew.iadd hx dX2_impose_36 ?_
    refine Ew.putI hx dX2_impose_37 pg_RX2_24 rfl ?_
    refine Ew.aload_n hx dX2_impose_40 rfl ?_
    refine Ew.getR (6) hx dX2_impose_41 fg_RX2_9 rfl rfl ?_
    refine Ew.iload_n hx dX2_impose_44 rfl ?_
    refine Ew.iconst hx dX2_impose_45 k_iconst_1 ?_
    refine Ew.isub hx dX2_impose_46 ?_
    refine Ew.iald (i := nt x - 1) hx dX2_impose_47 ag_6 rfl (ej) (hi) ?_
    refine Ew.iret hx hq dX2_impose_48 rfl ?_
    rw [cif_f e0, cif_f e0]
    refine ⟨?_, ?_⟩
    · rw [mup_oth _ _ _ _ (Or.inl (by decide)), mup_oth _ _ _ _ (Or.inl (by decide))]
    · rw [mup_oth V 7 _ _ (Or.inl (show (5 : Nat) ≠ 7 by decide)), mup_oth V 7 _ _ (Or.inl (show (6 : Nat) ≠ 7 by decide))]
  · have e0 : x = 0 := by
      rcases h03 with q | ⟨i, hi, rfl⟩
      · exact q
      · exact absurd ⟨by rw [ie, tn (by omega), tl_1]; omega, by rw [ie, tn (by omega), tl_3]; omega⟩ h6
    refine Ew.iconst hx dX2_impose_9 k_iconst_0 ?_
    refine Ew.iret hx hq dX2_impose_10 rfl ?_
    rw [cif_t e0, cif_t e0]
    exact ⟨rfl, rfl⟩
set_option maxHeartbeats 4000000 in
set_option maxRecDepth 100000 in
theorem ct_X7_reasonToFine (G : GT) (V : Mm) {s : Sv} {B : Int} (hR : Rep V 2 s) (hW : WF s B) {r : Nat} (hr : r < nrN s) (d q : Int32) : Ct G mX7_reasonToFine 1 [adr G 2, adr G (10 + r), .int (nI r), .int d, .int q] (V) (Ri (rsn s r d q) V) := by
  refine Ct.of cf_X7_reasonToFine (List.forall_mem_cons.mpr ⟨rfl, List.forall_mem_cons.mpr ⟨rfl, List.forall_mem_cons.mpr ⟨rfl, List.forall_mem_cons.mpr ⟨rfl, List.forall_mem_cons.mpr ⟨rfl, fun _ h => absurd h List.not_mem_nil⟩⟩⟩⟩⟩) (Nat.le_of_ble_eq_true rfl) (l0 := [some (adr G 2), some (adr G (10 + r)), some (.int (nI r)), some (.int d), some (.int q), none]) rfl (fun C hx hq => ?_)
  have hnr := hW.nr
  have hnp := hW.np
  have ht := hW.t
  refine Ew.aload_n hx dX7_reasonToFine_0 rfl ?_
  refine Ew.aload_n hx dX7_reasonToFine_1 rfl ?_
  refine Ew.getR (3) hx dX7_reasonToFine_2 fg_RX7_12 rfl rfl ?_
  refine Ew.getI hx dX7_reasonToFine_5 fg_RX7_64 rfl ?_
  refine Ew.iload_n hx dX7_reasonToFine_8 rfl ?_
  refine Ew.callV2 (y' := mX6_isOpen) hx dX7_reasonToFine_9 ml_RX7_160 cf_X6_isOpen cv_X6_isOpen (ct_X6_isOpen G V (10 + r) _ d (kd_rm (by omega))) (kd_rm (by omega)) oc_9 rfl (by decide) (by decide) rfl (Nat.le_of_ble_eq_true rfl) ?_
  rintro _ V9 ⟨rfl, h9⟩; subst V9
  rw [hR.level, hR.rm hr (by omega) (by decide)]
  refine Ew.ifne_b hx (tgt := 17) dX7_reasonToFine_12 rfl (fun h12 => ?_) (fun h12 => ?_)
  · have er0 : rsn s r d q = _ := cif_f (fun z => z h12)
    refine Ew.aload_n hx dX7_reasonToFine_17 rfl ?_
    refine Ew.iload hx dX7_reasonToFine_18 rfl ?_
    refine Ew.callV2 (y' := mX7_hasPermit) hx dX7_reasonToFine_20 ml_RX7_101 cf_X7_hasPermit cv_X7_hasPermit (ct_X7_hasPermit G V _ hR) rfl oc_2 rfl (by decide) (by decide) rfl (Nat.le_of_ble_eq_true rfl) ?_
    rintro _ V9 ⟨rfl, h9⟩; subst V9
    refine Ew.ifne_b hx (tgt := 28) dX7_reasonToFine_23 rfl (fun h23 => ?_) (fun h23 => ?_)
    · obtain ⟨p, hqp, hp⟩ := hW.pix h23
      have hqn : nt q = p := by rw [hqp, nt_nI (by omega)]
      rw [hqn] at er0
      refine Ew.aload_n hx dX7_reasonToFine_28 rfl ?_
      refine Ew.getR (9) hx dX7_reasonToFine_29 fg_RX7_33 rfl rfl ?_
      refine Ew.iload hx dX7_reasonToFine_32 rfl ?_
      refine Ew.aldq (14 + p) hx dX7_reasonToFine_34 rg_8 rfl (hqp) (by omega) (by omega) ?_
      refine Ew.astore hx dX7_reasonToFine_35 (by decide) rfl ?_
      refine Ew.aload hx dX7_reasonToFine_37 rfl ?_
      refine Ew.getI hx dX7_reasonToFine_39 fg_RX7_108 (kd_pm (by omega)) ?_
      refine Ew.iload_n hx dX7_reasonToFine_42 rfl ?_
      rw [hR.pm hp (by omega) (by decide)]
      refine Ew.icmp_ne hx (tgt := 68) dX7_reasonToFine_43 rfl (fun h43 => ?_) (fun h43 => ?_)
      · have er : rsn s r d q = 2 := er0.trans (cif_t (Or.inr (Or.inl h43)))
        refine Ew.iconst hx dX7_reasonToFine_68 k_iconst_2 ?_
        refine Ew.iret hx hq dX7_reasonToFine_69 rfl ?_
        rw [er]
        exact ⟨rfl, rfl⟩
      · refine Ew.aload hx dX7_reasonToFine_46 rfl ?_
        refine Ew.aload_n hx dX7_reasonToFine_48 rfl ?_
        refine Ew.getR (3) hx dX7_reasonToFine_49 fg_RX7_12 rfl rfl ?_
        refine Ew.getI hx dX7_reasonToFine_52 fg_RX7_89 rfl ?_
        refine Ew.aload_n hx dX7_reasonToFine_55 rfl ?_
        refine Ew.getR (3) hx dX7_reasonToFine_56 fg_RX7_12 rfl rfl ?_
        refine Ew.getI hx dX7_reasonToFine_59 fg_RX7_89 rfl ?_
        rw [hR.today]
        refine Ew.callV2 (y' := mX4_comesOn) hx dX7_reasonToFine_62 ml_RX7_136 cf_X4_comesOn cv_X4_comesOn (ct_X4_comesOn G V (14 + p) _ _ (kd_pm (by omega))) (kd_pm (by omega)) oc_10 rfl (by decide) (by decide) rfl (Nat.le_of_ble_eq_true rfl) ?_
        rintro _ V9 ⟨rfl, h9⟩; subst V9
        rw [hR.pm hp (by omega) (by decide), hR.pm hp (by omega) (by decide), hR.pm hp (by omega) (by decide)]
        refine Ew.ifne_b hx (tgt := 70) dX7_reasonToFine_65 rfl (fun h65 => ?_) (fun h65 => ?_)
        · have h65 : cms s p (tN s) := by unfold cms; rw [← ht.1]; exact h65
          have er1 : rsn s r d q = _ := er0.trans (cif_f (fun z => by rcases z with z | z | z; exact z h23; exact z h43; exact z h65))
          refine Ew.iload_n hx dX7_reasonToFine_70 rfl ?_
          refine Ew.aload hx dX7_reasonToFine_71 rfl ?_
          refine Ew.getI hx dX7_reasonToFine_73 fg_RX7_114 (kd_pm (by omega)) ?_
          rw [hR.pm hp (by omega) (by decide)]
          refine Ew.icmp_le hx (tgt := 83) dX7_reasonToFine_76 rfl (fun h76 => ?_) (fun h76 => ?_)
          · have er : rsn s r d q = 0 := er1.trans (cif_f (fun z => by rw [il] at z; rw [ie] at h76; omega))
            refine Ew.iconst hx dX7_reasonToFine_83 k_iconst_0 ?_
            refine Ew.iret hx hq dX7_reasonToFine_84 rfl ?_
            rw [er]
            exact ⟨rfl, rfl⟩
          · have er : rsn s r d q = 3 := er1.trans (cif_t (by rw [il]; rw [ie] at h76; omega))
            refine Ew.iconst hx dX7_reasonToFine_79 k_iconst_3 ?_
            refine Ew.goto hx (tgt := 84) dX7_reasonToFine_80 rfl ?_
            refine Ew.iret hx hq dX7_reasonToFine_84 rfl ?_
            rw [er]
            exact ⟨rfl, rfl⟩
        · have h65 : ¬ cms s p (tN s) := fun z => h65 (by unfold cms at z; rw [← ht.1] at z; exact z)
          have er : rsn s r d q = 2 := er0.trans (cif_t (Or.inr (Or.inr h65)))
          refine Ew.iconst hx dX7_reasonToFine_68 k_iconst_2 ?_
          refine Ew.iret hx hq dX7_reasonToFine_69 rfl ?_
          rw [er]
          exact ⟨rfl, rfl⟩
    · have er : rsn s r d q = 2 := er0.trans (cif_t (Or.inl h23))
      refine Ew.iconst hx dX7_reasonToFine_26 k_iconst_2 ?_
      refine Ew.iret hx hq dX7_reasonToFine_27 rfl ?_
      rw [er]
      exact ⟨rfl, rfl⟩
  · have er : rsn s r d q = 1 := cif_t h12
    refine Ew.iconst hx dX7_reasonToFine_15 k_iconst_1 ?_
    refine Ew.iret hx hq dX7_reasonToFine_16 rfl ?_
    rw [er]
    exact ⟨rfl, rfl⟩
theorem rsn_03 (s : Sv) (r : Nat) (d q : Int32) : rsn s r d q = 0 ∨ ∃ i, i < 3 ∧ rsn s r d q = nI (i + 1) := by
  unfold rsn
  by_cases h1 : ¬ opn s r d (s 1)
  · rw [cif_t h1]
    exact Or.inr ⟨0, by decide, rfl⟩
  · rw [cif_f h1]
    by_cases h2 : ¬ (0 ≤ q ∧ q < s 3) ∨ ¬ pf s (nt q) 0 = nI r ∨ ¬ cms s (nt q) (tN s)
    · rw [cif_t h2]
      exact Or.inr ⟨1, by decide, rfl⟩
    · rw [cif_f h2]
      by_cases h3 : pf s (nt q) 3 < d
      · rw [cif_t h3]
        exact Or.inr ⟨2, by decide, rfl⟩
      · rw [cif_f h3]
        exact Or.inl rfl
theorem rsn_i {s : Sv} {r : Nat} {d q : Int32} (h : ¬ rsn s r d q = 0) : nt (rsn s r d q) - 1 < 3 := by
  rcases rsn_03 s r d q with h2 | ⟨i, hi, e⟩
  · exact absurd h2 h
  · rw [e, nt_nI (by omega)]
    omega
set_option maxHeartbeats 4000000 in
set_option maxRecDepth 100000 in
theorem ct_X7_launchBoat (G : GT) (V : Mm) {s : Sv} {B : Int} (hR : Rep V 2 s) (hW : WF s B) (x d q : Int32) : Ct G mX7_launchBoat 2 [adr G 2, .int x, .int d, .int q] (V) (Pst V (cdLaunch s x d q) (anLaunch s x d q) (nxLaunch s x d q)) := by
  refine Ct.of cf_X7_launchBoat (List.forall_mem_cons.mpr ⟨rfl, List.forall_mem_cons.mpr ⟨rfl, List.forall_mem_cons.mpr ⟨rfl, List.forall_mem_cons.mpr ⟨rfl, fun _ h => absurd h List.not_mem_nil⟩⟩⟩⟩) (Nat.le_of_ble_eq_true rfl) (l0 := [some (adr G 2), some (.int x), some (.int d), some (.int q)]) rfl (fun C hx hq => ?_)
  have hnr := hW.nr
  have hnp := hW.np
  refine Ew.aload_n hx dX7_launchBoat_0 rfl ?_
  refine Ew.iload_n hx dX7_launchBoat_1 rfl ?_
  refine Ew.callV2 (y' := mX7_hasRamp) hx dX7_launchBoat_2 ml_RX7_81 cf_X7_hasRamp cv_X7_hasRamp (ct_X7_hasRamp G V _ hR) rfl oc_2 rfl (by decide) (by decide) rfl (Nat.le_of_ble_eq_true rfl) ?_
  rintro _ V9 ⟨rfl, h9⟩; subst V9
  refine Ew.ifeq_b hx (tgt := 32) dX7_launchBoat_5 rfl (fun h5 => ?_) (fun h5 => ?_)
  · have ec : cdLaunch s x d q = -100001 := cif_f (fun z => h5 z.1)
    refine Ew.ldc hx dX7_launchBoat_32 kn_RX7_63 ?_
    refine Ew.iret hx hq dX7_launchBoat_34 rfl ?_
    exact Or.inl ⟨by rw [ec]; decide, by rw [ec], rfl⟩
  · refine Ew.iload_n hx dX7_launchBoat_8 rfl ?_
    refine Ew.iconst hx dX7_launchBoat_9 k_iconst_0 ?_
    refine Ew.sipush hx dX7_launchBoat_10 k_sipush_300 ?_
    refine Ew.callSN (y' := mX11_isWithin) hx dX7_launchBoat_13 (host := RX11) (List.mem_of_getElem? (i := 6) rfl) cf_X11_isWithin cs_X11_isWithin (ct_X11_isWithin G _ _ _ _) rfl (by decide) (by decide) rfl (Nat.le_of_ble_eq_true rfl) ?_
    rintro _ V9 ⟨rfl, h9⟩; subst V9
    refine Ew.ifeq_b hx (tgt := 32) dX7_launchBoat_16 rfl (fun h16 => ?_) (fun h16 => ?_)
    · have ec : cdLaunch s x d q = -100001 := cif_f (fun z => h16 z.2.1)
      refine Ew.ldc hx dX7_launchBoat_32 kn_RX7_63 ?_
      refine Ew.iret hx hq dX7_launchBoat_34 rfl ?_
      exact Or.inl ⟨by rw [ec]; decide, by rw [ec], rfl⟩
    · refine Ew.iload_n hx dX7_launchBoat_19 rfl ?_
      refine Ew.iconst hx dX7_launchBoat_20 k_iconst_m1 ?_
      refine Ew.icmp_eq hx (tgt := 35) dX7_launchBoat_21 rfl (fun h21 => ?_) (fun h21 => ?_)
      · have ec : cdLaunch s x d q = 0 := cif_t ⟨h5, h16, Or.inl h21⟩
        refine Ew.aload_n hx dX7_launchBoat_35 rfl ?_
        refine Ew.getR (5) hx dX7_launchBoat_36 fg_RX7_21 rfl rfl ?_
        refine Ew.aload_n hx dX7_launchBoat_39 rfl ?_
        refine Ew.aload_n hx dX7_launchBoat_40 rfl ?_
        refine Ew.getR (8) hx dX7_launchBoat_41 fg_RX7_27 rfl rfl ?_
        refine Ew.iload_n hx dX7_launchBoat_44 rfl ?_
        obtain ⟨r, hxr, hr⟩ := hW.rix h5
        have hxn : nt x = r := by rw [hxr, nt_nI (by omega)]
        refine Ew.aldq (10 + r) hx dX7_launchBoat_45 rg_7 rfl (hxr) (by omega) (by omega) ?_
        refine Ew.iload_n hx dX7_launchBoat_46 rfl ?_
        refine Ew.iload_n hx dX7_launchBoat_47 rfl ?_
        refine Ew.iload_n hx dX7_launchBoat_48 rfl ?_
        rw [hxr]
        refine Ew.callV2 (y' := mX7_reasonToFine) hx dX7_launchBoat_49 ml_RX7_153 cf_X7_reasonToFine cv_X7_reasonToFine (ct_X7_reasonToFine G V hR hW hr d q) rfl oc_2 rfl (by decide) (by decide) rfl (Nat.le_of_ble_eq_true rfl) ?_
        rintro _ V9 ⟨rfl, h9⟩; subst V9
        refine Ew.callV2 (y' := mX2_impose) hx dX7_launchBoat_52 ml_RX7_157 cf_X2_impose cv_X2_impose (ct_X2_impose G V _ (rsn_03 s r d q)) rfl oc_5 rfl (by decide) (by decide) rfl (Nat.le_of_ble_eq_true rfl) ?_
        rintro _ V9 ⟨rfl, h9⟩; subst V9
        refine Ew.iret hx hq dX7_launchBoat_55 rfl ?_
        have e1 : anLaunch s x d q = cif (rsn s r d q = 0) 0 (s (4 + (nt (rsn s r d q) - 1))) := by unfold anLaunch; rw [hxn]
        have e2 : nxLaunch s x d q = cif (rsn s r d q = 0) s (upd (upd s (7 + (nt (rsn s r d q) - 1)) (s (7 + (nt (rsn s r d q) - 1)) + 1)) 10 (s 10 + s (4 + (nt (rsn s r d q) - 1)))) := by unfold nxLaunch; rw [hxn]
        rw [e1, e2]
        by_cases h0 : rsn s r d q = 0
        · rw [cif_t h0, cif_t h0, cif_t h0, cif_t h0]
          exact Or.inr ⟨ec, rfl, hR, Fr.rfl'⟩
        · rw [cif_f h0, cif_f h0, cif_f h0, cif_f h0]
          have hi := rsn_i h0
          rw [hR.amt hi, hR.tms hi, hR.tot]
          exact Or.inr ⟨ec, rfl, (hR.put (7 + (nt (rsn s r d q) - 1)) _ (by omega) (by omega) (by omega) (cl_tm hi).1 (cl_tm hi).2).put 10 _ (by decide) (by decide) (by decide) rfl rfl, (Fr.rfl'.mup (by decide)).mup (by decide)⟩
      · refine Ew.aload_n hx dX7_launchBoat_24 rfl ?_
        refine Ew.iload_n hx dX7_launchBoat_25 rfl ?_
        refine Ew.callV2 (y' := mX7_hasPermit) hx dX7_launchBoat_26 ml_RX7_101 cf_X7_hasPermit cv_X7_hasPermit (ct_X7_hasPermit G V _ hR) rfl oc_2 rfl (by decide) (by decide) rfl (Nat.le_of_ble_eq_true rfl) ?_
        rintro _ V9 ⟨rfl, h9⟩; subst V9
        refine Ew.ifne_b hx (tgt := 35) dX7_launchBoat_29 rfl (fun h29 => ?_) (fun h29 => ?_)
        · have ec : cdLaunch s x d q = 0 := cif_t ⟨h5, h16, Or.inr h29⟩
          refine Ew.aload_n hx dX7_launchBoat_35 rfl ?_
          refine Ew.getR (5) hx dX7_launchBoat_36 fg_RX7_21 rfl rfl ?_
          refine Ew.aload_n hx dX7_launchBoat_39 rfl ?_
          refine Ew.aload_n hx dX7_launchBoat_40 rfl ?_
          refine Ew.getR (8) hx dX7_launchBoat_41 fg_RX7_27 rfl rfl ?_
          refine Ew.iload_n hx dX7_launchBoat_44 rfl ?_
          obtain ⟨r, hxr, hr⟩ := hW.rix h5
          have hxn : nt x = r := by rw [hxr, nt_nI (by omega)]
          refine Ew.aldq (10 + r) hx dX7_launchBoat_45 rg_7 rfl (hxr) (by omega) (by omega) ?_
          refine Ew.iload_n hx dX7_launchBoat_46 rfl ?_
          refine Ew.iload_n hx dX7_launchBoat_47 rfl ?_
          refine Ew.iload_n hx dX7_launchBoat_48 rfl ?_
          rw [hxr]
          refine Ew.callV2 (y' := mX7_reasonToFine) hx dX7_launchBoat_49 ml_RX7_153 cf_X7_reasonToFine cv_X7_reasonToFine (ct_X7_reasonToFine G V hR hW hr d q) rfl oc_2 rfl (by decide) (by decide) rfl (Nat.le_of_ble_eq_true rfl) ?_
          rintro _ V9 ⟨rfl, h9⟩; subst V9
          refine Ew.callV2 (y' := mX2_impose) hx dX7_launchBoat_52 ml_RX7_157 cf_X2_impose cv_X2_impose (ct_X2_impose G V _ (rsn_03 s r d q)) rfl oc_5 rfl (by decide) (by decide) rfl (Nat.le_of_ble_eq_true rfl) ?_
          rintro _ V9 ⟨rfl, h9⟩; subst V9
          refine Ew.iret hx hq dX7_launchBoat_55 rfl ?_
          have e1 : anLaunch s x d q = cif (rsn s r d q = 0) 0 (s (4 + (nt (rsn s r d q) - 1))) := by unfold anLaunch; rw [hxn]
          have e2 : nxLaunch s x d q = cif (rsn s r d q = 0) s (upd (upd s (7 + (nt (rsn s r d q) - 1)) (s (7 + (nt (rsn s r d q) - 1)) + 1)) 10 (s 10 + s (4 + (nt (rsn s r d q) - 1)))) := by unfold nxLaunch; rw [hxn]
          rw [e1, e2]
          by_cases h0 : rsn s r d q = 0
          · rw [cif_t h0, cif_t h0, cif_t h0, cif_t h0]
            exact Or.inr ⟨ec, rfl, hR, Fr.rfl'⟩
          · rw [cif_f h0, cif_f h0, cif_f h0, cif_f h0]
            have hi := rsn_i h0
            rw [hR.amt hi, hR.tms hi, hR.tot]
            exact Or.inr ⟨ec, rfl, (hR.put (7 + (nt (rsn s r d q) - 1)) _ (by omega) (by omega) (by omega) (cl_tm hi).1 (cl_tm hi).2).put 10 _ (by decide) (by decide) (by decide) rfl rfl, (Fr.rfl'.mup (by decide)).mup (by decide)⟩
        · have ec : cdLaunch s x d q = -100001 := cif_f (fun z => by rcases z.2.2 with z | z; exact h21 z; exact h29 z)
          refine Ew.ldc hx dX7_launchBoat_32 kn_RX7_63 ?_
          refine Ew.iret hx hq dX7_launchBoat_34 rfl ?_
          exact Or.inl ⟨by rw [ec]; decide, by rw [ec], rfl⟩
