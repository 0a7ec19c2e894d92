def lwF (s : Sv) (a : Nat) : Nat → Int32
  | 0 => 5000
  | n + 1 => @ite _ (a ≤ tN s + n ∧ FC s n < lwF s a n) inferInstance (FC s n) (lwF s a n)
set_option maxHeartbeats 4000000 in
set_option maxRecDepth 100000 in
theorem ct_X7_hasRamp (G : GT) (V : Mm) {s : Sv} (x : Int32) (hR : Rep V 2 s) : Ct G mX7_hasRamp 0 [adr G 2, .int x] (V) (Ri (b2i (0 ≤ x ∧ x < s 2)) V) := by
  refine Ct.of cf_X7_hasRamp (List.forall_mem_cons.mpr ⟨rfl, List.forall_mem_cons.mpr ⟨rfl, fun _ h => absurd h List.not_mem_nil⟩⟩) (Nat.le_of_ble_eq_true rfl) (l0 := [some (adr G 2), some (.int x)]) rfl (fun C hx hq => ?_)
  refine Ew.iload_n hx dX7_hasRamp_0 rfl ?_
  refine Ew.if_lt hx (tgt := 16) dX7_hasRamp_1 rfl (fun h1 => ?_) (fun h1 => ?_)
  · refine Ew.iconst hx dX7_hasRamp_16 k_iconst_0 ?_
    refine Ew.bret hx hq dX7_hasRamp_17 rfl (by first | exact b2i_01 _ | decide) ?_
    refine ⟨congrArg (fun z => some (Value.int z)) ?_, rfl⟩
    first | exact (b2i_t (by simp only [il, ie] at *; omega)).symm | exact (b2i_f (by simp only [il, ie] at *; omega)).symm
  · refine Ew.iload_n hx dX7_hasRamp_4 rfl ?_
    refine Ew.aload_n hx dX7_hasRamp_5 rfl ?_
    refine Ew.getI hx dX7_hasRamp_6 fg_RX7_46 rfl ?_
    rw [hR.nrs]
    refine Ew.icmp_ge hx (tgt := 16) dX7_hasRamp_9 rfl (fun h9 => ?_) (fun h9 => ?_)
    · refine Ew.iconst hx dX7_hasRamp_16 k_iconst_0 ?_
      refine Ew.bret hx hq dX7_hasRamp_17 rfl (by first | exact b2i_01 _ | decide) ?_
      refine ⟨congrArg (fun z => some (Value.int z)) ?_, rfl⟩
      first | exact (b2i_t (by simp only [il, ie] at *; omega)).symm | exact (b2i_f (by simp only [il, ie] at *; omega)).symm
    · refine Ew.iconst hx dX7_hasRamp_12 k_iconst_1 ?_
      refine Ew.goto hx (tgt := 17) dX7_hasRamp_13 rfl ?_
      refine Ew.bret hx hq dX7_hasRamp_17 rfl (by first | exact b2i_01 _ | decide) ?_
      refine ⟨congrArg (fun z => some (Value.int z)) ?_, rfl⟩
      first | exact (b2i_t (by simp only [il, ie] at *; omega)).symm | exact (b2i_f (by simp only [il, ie] at *; omega)).symm
set_option maxHeartbeats 4000000 in
set_option maxRecDepth 100000 in
theorem ct_X7_hasPermit (G : GT) (V : Mm) {s : Sv} (x : Int32) (hR : Rep V 2 s) : Ct G mX7_hasPermit 0 [adr G 2, .int x] (V) (Ri (b2i (0 ≤ x ∧ x < s 3)) V) := by
  refine Ct.of cf_X7_hasPermit (List.forall_mem_cons.mpr ⟨rfl, List.forall_mem_cons.mpr ⟨rfl, fun _ h => absurd h List.not_mem_nil⟩⟩) (Nat.le_of_ble_eq_true rfl) (l0 := [some (adr G 2), some (.int x)]) rfl (fun C hx hq => ?_)
  refine Ew.iload_n hx dX7_hasPermit_0 rfl ?_
  refine Ew.if_lt hx (tgt := 16) dX7_hasPermit_1 rfl (fun h1 => ?_) (fun h1 => ?_)
  · refine Ew.iconst hx dX7_hasPermit_16 k_iconst_0 ?_
    refine Ew.bret hx hq dX7_hasPermit_17 rfl (by first | exact b2i_01 _ | decide) ?_
    refine ⟨congrArg (fun z => some (Value.int z)) ?_, rfl⟩
    first | exact (b2i_t (by simp only [il, ie] at *; omega)).symm | exact (b2i_f (by simp only [il, ie] at *; omega)).symm
  · refine Ew.iload_n hx dX7_hasPermit_4 rfl ?_
    refine Ew.aload_n hx dX7_hasPermit_5 rfl ?_
    refine Ew.getI hx dX7_hasPermit_6 fg_RX7_53 rfl ?_
    rw [hR.nps]
    refine Ew.icmp_ge hx (tgt := 16) dX7_hasPermit_9 rfl (fun h9 => ?_) (fun h9 => ?_)
    · refine Ew.iconst hx dX7_hasPermit_16 k_iconst_0 ?_
      refine Ew.bret hx hq dX7_hasPermit_17 rfl (by first | exact b2i_01 _ | decide) ?_
      refine ⟨congrArg (fun z => some (Value.int z)) ?_, rfl⟩
      first | exact (b2i_t (by simp only [il, ie] at *; omega)).symm | exact (b2i_f (by simp only [il, ie] at *; omega)).symm
    · refine Ew.iconst hx dX7_hasPermit_12 k_iconst_1 ?_
      refine Ew.goto hx (tgt := 17) dX7_hasPermit_13 rfl ?_
      refine Ew.bret hx hq dX7_hasPermit_17 rfl (by first | exact b2i_01 _ | decide) ?_
      refine ⟨congrArg (fun z => some (Value.int z)) ?_, rfl⟩
      first | exact (b2i_t (by simp only [il, ie] at *; omega)).symm | exact (b2i_f (by simp only [il, ie] at *; omega)).symm
set_option maxHeartbeats 4000000 in
set_option maxRecDepth 100000 in
theorem lp_X10_lowest {G : GT} {C : CT} {V : Mm} {s : Sv} {B : Int} (hR : Rep V 2 s) (hW : WF s B) (a b : Nat) (ha : a < 2 ^ 30) (hb : b < 2 ^ 30) (hN : tN s ≤ b + 1) (hx : Cx G mX10_lowestForecast 1 C) (hq : Cq G (Ri (lwF s a (b + 1 - tN s)) V) C) : ∀ (n i : Nat), i + n = b + 1 - tN s → Ew G C (V) 16 [some (adr G 3), some (.int (nI a)), some (.int (nI b)), some (.int (lwF s a i)), some (.int (FC s i)), some (.int (nI (tN s + i)))] [] := by
  intro n
  induction n with
  | zero =>
    intro i hi
    refine Ew.iload hx dX10_lowestForecast_16 rfl ?_
    refine Ew.iload_n hx dX10_lowestForecast_18 rfl ?_
    refine Ew.icmp_gt_t hx (tgt := 57) dX10_lowestForecast_19 rfl (nI_lt (by omega) (by omega)) ?_
    refine Ew.iload_n hx dX10_lowestForecast_57 rfl ?_
    refine Ew.iret hx hq dX10_lowestForecast_58 rfl ?_
    have e : i = b + 1 - tN s := by omega
    rw [← e]
    exact ⟨rfl, rfl⟩
  | succ n ih =>
    intro i hi
    refine Ew.iload hx dX10_lowestForecast_16 rfl ?_
    refine Ew.iload_n hx dX10_lowestForecast_18 rfl ?_
    refine Ew.icmp_gt_f hx (tgt := 57) dX10_lowestForecast_19 rfl (nI_nlt (by omega) (by omega)) ?_
    refine Ew.iload hx dX10_lowestForecast_22 rfl ?_
    refine Ew.iload_n hx dX10_lowestForecast_24 rfl ?_
    refine Ew.icmp_lt hx (tgt := 37) dX10_lowestForecast_25 rfl (fun h25 => ?_) (fun h25 => ?_)
    · have e : lwF s a (i + 1) = lwF s a i := if_neg (fun q => by rw [il, tn (by omega), tn (by omega)] at h25; omega)
      refine Ew.iload hx dX10_lowestForecast_37 rfl ?_
      refine Ew.aload_n hx dX10_lowestForecast_39 rfl ?_
      refine Ew.iload hx dX10_lowestForecast_40 rfl ?_
      refine Ew.callV2 (y' := mX10_rateOn) hx dX10_lowestForecast_42 ml_RX10_28 cf_X10_rateOn cv_X10_rateOn (ct_X10_rateOn G V 3 (tN s + i) rfl rfl (by omega)) rfl oc_3 rfl (by decide) (by decide) rfl (Nat.le_of_ble_eq_true rfl) ?_
      rintro _ V9 ⟨rfl, h9⟩; subst V9
      rw [rtd_c (f := V (3 + 1)) (g := fun w => s (11 + w)) (fun w hw => hR.rate hw)]
      refine Ew.iadd hx dX10_lowestForecast_45 ?_
      refine Ew.callS (y' := mX10_bounded) hx dX10_lowestForecast_46 ml_RX10_32 cf_X10_bounded cs_X10_bounded (ct_X10_bounded G _ _) rfl (by decide) (by decide) rfl (Nat.le_of_ble_eq_true rfl) ?_
      rintro _ V9 ⟨rfl, h9⟩; subst V9
      refine Ew.istore hx dX10_lowestForecast_49 (by decide) rfl ?_
      refine Ew.iinc hx dX10_lowestForecast_51 rfl (k_iinc_1 _) (by decide) rfl ?_
      refine Ew.goto hx (tgt := 16) dX10_lowestForecast_54 rfl ?_
      have q := ih (i + 1) (by omega)
      rw [e] at q
      rw [nI_1]
      exact q
    · have h25 : a ≤ tN s + i := by rw [il, tn (by omega), tn (by omega)] at h25; omega
      refine Ew.iload hx dX10_lowestForecast_28 rfl ?_
      refine Ew.iload_n hx dX10_lowestForecast_30 rfl ?_
      refine Ew.icmp_ge hx (tgt := 37) dX10_lowestForecast_31 rfl (fun h31 => ?_) (fun h31 => ?_)
      · have e : lwF s a (i + 1) = lwF s a i := if_neg (fun q => by rw [ie] at h31; rw [il] at q; omega)
        refine Ew.iload hx dX10_lowestForecast_37 rfl ?_
        refine Ew.aload_n hx dX10_lowestForecast_39 rfl ?_
        refine Ew.iload hx dX10_lowestForecast_40 rfl ?_
        refine Ew.callV2 (y' := mX10_rateOn) hx dX10_lowestForecast_42 ml_RX10_28 cf_X10_rateOn cv_X10_rateOn (ct_X10_rateOn G V 3 (tN s + i) rfl rfl (by omega)) rfl oc_3 rfl (by decide) (by decide) rfl (Nat.le_of_ble_eq_true rfl) ?_
        rintro _ V9 ⟨rfl, h9⟩; subst V9
        rw [rtd_c (f := V (3 + 1)) (g := fun w => s (11 + w)) (fun w hw => hR.rate hw)]
        refine Ew.iadd hx dX10_lowestForecast_45 ?_
        refine Ew.callS (y' := mX10_bounded) hx dX10_lowestForecast_46 ml_RX10_32 cf_X10_bounded cs_X10_bounded (ct_X10_bounded G _ _) rfl (by decide) (by decide) rfl (Nat.le_of_ble_eq_true rfl) ?_
        rintro _ V9 ⟨rfl, h9⟩; subst V9
        refine Ew.istore hx dX10_lowestForecast_49 (by decide) rfl ?_
        refine Ew.iinc hx dX10_lowestForecast_51 rfl (k_iinc_1 _) (by decide) rfl ?_
        refine Ew.goto hx (tgt := 16) dX10_lowestForecast_54 rfl ?_
        have q := ih (i + 1) (by omega)
        rw [e] at q
        rw [nI_1]
        exact q
      · have e : lwF s a (i + 1) = FC s i := if_pos ⟨h25, by rw [ie] at h31; rw [il]; omega⟩
        refine Ew.iload hx dX10_lowestForecast_34 rfl ?_
        refine Ew.istore_n hx dX10_lowestForecast_36 (by decide) rfl ?_
        refine Ew.iload hx dX10_lowestForecast_37 rfl ?_
        refine Ew.aload_n hx dX10_lowestForecast_39 rfl ?_
        refine Ew.iload hx dX10_lowestForecast_40 rfl ?_
        refine Ew.callV2 (y' := mX10_rateOn) hx dX10_lowestForecast_42 ml_RX10_28 cf_X10_rateOn cv_X10_rateOn (ct_X10_rateOn G V 3 (tN s + i) rfl rfl (by omega)) rfl oc_3 rfl (by decide) (by decide) rfl (Nat.le_of_ble_eq_true rfl) ?_
        rintro _ V9 ⟨rfl, h9⟩; subst V9
        rw [rtd_c (f := V (3 + 1)) (g := fun w => s (11 + w)) (fun w hw => hR.rate hw)]
        refine Ew.iadd hx dX10_lowestForecast_45 ?_
        refine Ew.callS (y' := mX10_bounded) hx dX10_lowestForecast_46 ml_RX10_32 cf_X10_bounded cs_X10_bounded (ct_X10_bounded G _ _) rfl (by decide) (by decide) rfl (Nat.le_of_ble_eq_true rfl) ?_
        rintro _ V9 ⟨rfl, h9⟩; subst V9
        refine Ew.istore hx dX10_lowestForecast_49 (by decide) rfl ?_
        refine Ew.iinc hx dX10_lowestForecast_51 rfl (k_iinc_1 _) (by decide) rfl ?_
        refine Ew.goto hx (tgt := 16) dX10_lowestForecast_54 rfl ?_
        have q := ih (i + 1) (by omega)
        rw [e] at q
        rw [nI_1]
        exact q
set_option maxHeartbeats 4000000 in
set_option maxRecDepth 100000 in
theorem ct_X10_lowestForecast (G : GT) (V : Mm) {s : Sv} {B : Int} (hR : Rep V 2 s) (hW : WF s B) (a b : Nat) (ha : a < 2 ^ 30) (hb : b < 2 ^ 30) (hN : tN s ≤ b + 1) : Ct G mX10_lowestForecast 1 [adr G 3, .int (nI a), .int (nI b)] (V) (Ri (lwF s a (b + 1 - tN s)) V) := by
  refine Ct.of cf_X10_lowestForecast (List.forall_mem_cons.mpr ⟨rfl, List.forall_mem_cons.mpr ⟨rfl, List.forall_mem_cons.mpr ⟨rfl, fun _ h => absurd h List.not_mem_nil⟩⟩⟩) (Nat.le_of_ble_eq_true rfl) (l0 := [some (adr G 3), some (.int (nI a)), some (.int (nI b)), none, none, none]) rfl (fun C hx hq => ?_)
  refine Ew.sipush hx dX10_lowestForecast_0 k_sipush_5000 ?_
  refine Ew.istore_n hx dX10_lowestForecast_3 (by decide) rfl ?_
  refine Ew.aload_n hx dX10_lowestForecast_4 rfl ?_
  refine Ew.getI hx dX10_lowestForecast_5 fg_RX10_9 rfl ?_
  refine Ew.istore hx dX10_lowestForecast_8 (by decide) rfl ?_
  refine Ew.aload_n hx dX10_lowestForecast_10 rfl ?_
  refine Ew.getI hx dX10_lowestForecast_11 fg_RX10_19 rfl ?_
  refine Ew.istore hx dX10_lowestForecast_14 (by decide) rfl ?_
  have ht := hW.t.1
  rw [hR.level, hR.today, ht]
  exact lp_X10_lowest hR hW a b ha hb hN hx hq (b + 1 - tN s) 0 (by omega)
set_option maxHeartbeats 4000000 in
set_option maxRecDepth 100000 in
theorem ct_X7_isOpenFor (G : GT) (V : Mm) {s : Sv} {B : Int} (hR : Rep V 2 s) (hW : WF s B) (p : Nat) (hp : p < npN s) (lv : Int32) : Ct G mX7_isOpenFor 1 [adr G 2, adr G (14 + p), .int lv] (V) (Ri (b2i (opn s (rrN s p) (pf s p 3) lv)) V) := by
  refine Ct.of cf_X7_isOpenFor (List.forall_mem_cons.mpr ⟨rfl, List.forall_mem_cons.mpr ⟨rfl, List.forall_mem_cons.mpr ⟨rfl, fun _ h => absurd h List.not_mem_nil⟩⟩⟩) (Nat.le_of_ble_eq_true rfl) (l0 := [some (adr G 2), some (adr G (14 + p)), some (.int lv)]) rfl (fun C hx hq => ?_)
  have hnp := hW.np.2
  have hnr := hW.nr.2
  obtain ⟨r, a, b, er, hr, -⟩ := hW.pn hp
  have ern : rrN s p = r := by unfold rrN; rw [er, tn (by omega)]; omega
  refine Ew.aload_n hx dX7_isOpenFor_0 rfl ?_
  refine Ew.aload_n hx dX7_isOpenFor_1 rfl ?_
  refine Ew.getI hx dX7_isOpenFor_2 fg_RX7_108 (kd_pm (by omega)) ?_
  refine Ew.callV2 (y' := mX7_hasRamp) hx dX7_isOpenFor_5 ml_RX7_81 cf_X7_hasRamp cv_X7_hasRamp (ct_X7_hasRamp G V _ hR) rfl oc_2 rfl (by decide) (by decide) rfl (Nat.le_of_ble_eq_true rfl) ?_
  rintro _ V9 ⟨rfl, h9⟩; subst V9
  rw [hR.pm hp (by omega) (by decide)]
  rw [b2i_t (⟨by rw [er, ie, tn (by omega), tl_0]; omega, by rw [er, il, hW.nr.1, tn (by omega), tn (by omega)]; omega⟩)]
  refine Ew.if_eq_f hx (tgt := 35) dX7_isOpenFor_8 rfl (by decide) ?_
  refine Ew.aload_n hx dX7_isOpenFor_11 rfl ?_
  refine Ew.getR (8) hx dX7_isOpenFor_12 fg_RX7_27 rfl rfl ?_
  refine Ew.aload_n hx dX7_isOpenFor_15 rfl ?_
  refine Ew.getI hx dX7_isOpenFor_16 fg_RX7_108 (kd_pm (by omega)) ?_
  rw [hR.pm hp (by omega) (by decide), er]
  refine Ew.aldq (10 + r) hx dX7_isOpenFor_19 rg_7 rfl (rfl) (by omega) (by omega) ?_
  refine Ew.iload_n hx dX7_isOpenFor_20 rfl ?_
  refine Ew.aload_n hx dX7_isOpenFor_21 rfl ?_
  refine Ew.getI hx dX7_isOpenFor_22 fg_RX7_114 (kd_pm (by omega)) ?_
  refine Ew.callV2 (y' := mX6_isOpen) hx dX7_isOpenFor_25 ml_RX7_160 cf_X6_isOpen cv_X6_isOpen (ct_X6_isOpen G V (10 + r) lv _ (kd_rm (by omega))) (kd_rm (by omega)) oc_9 rfl (by decide) (by decide) rfl (Nat.le_of_ble_eq_true rfl) ?_
  rintro _ V9 ⟨rfl, h9⟩; subst V9
  refine Ew.ifeq_b hx (tgt := 35) dX7_isOpenFor_28 rfl (fun h28 => ?_) (fun h28 => ?_)
  · refine Ew.iconst hx dX7_isOpenFor_35 k_iconst_0 ?_
    refine Ew.bret hx hq dX7_isOpenFor_36 rfl (by first | exact b2i_01 _ | decide) ?_
    refine ⟨congrArg (fun z => some (Value.int z)) ?_, rfl⟩
    rw [hR.pm hp (by omega) (by decide), hR.rm hr (by omega) (by decide)] at h28
    unfold opn
    rw [ern]
    first | exact (b2i_t h28).symm | exact (b2i_f h28).symm
  · refine Ew.iconst hx dX7_isOpenFor_31 k_iconst_1 ?_
    refine Ew.goto hx (tgt := 36) dX7_isOpenFor_32 rfl ?_
    refine Ew.bret hx hq dX7_isOpenFor_36 rfl (by first | exact b2i_01 _ | decide) ?_
    refine ⟨congrArg (fun z => some (Value.int z)) ?_, rfl⟩
    rw [hR.pm hp (by omega) (by decide), hR.rm hr (by omega) (by decide)] at h28
    unfold opn
    rw [ern]
    first | exact (b2i_t h28).symm | exact (b2i_f h28).symm
set_option maxHeartbeats 4000000 in
set_option maxRecDepth 100000 in
theorem lp_X7_permitsOn {G : GT} {C : CT} {V : Mm} {s : Sv} {B : Int} (hR : Rep V 2 s) (hW : WF s B) (x : Int32) (D : Nat) (hx : Cx G mX7_permitsOn 1 C) (hq : Cq G (Ri (nI (cOn s x D (npN s))) V) C) : ∀ (n i : Nat), i + n = npN s → Ew G C (V) 5 [some (adr G 2), some (.int x), some (.int (nI D)), some (.int (nI (cOn s x D i))), some (.int (nI i))] [] := by
  intro n
  induction n with
  | zero =>
    intro i hi
    refine Ew.iload hx dX7_permitsOn_5 rfl ?_
    refine Ew.aload_n hx dX7_permitsOn_7 rfl ?_
    refine Ew.getI hx dX7_permitsOn_8 fg_RX7_53 rfl ?_
    have hnp := hW.np.2
    rw [hR.nps, hW.np.1]
    refine Ew.icmp_ge_t hx (tgt := 58) dX7_permitsOn_11 rfl (nI_le (by omega) (by omega)) ?_
    refine Ew.iload_n hx dX7_permitsOn_58 rfl ?_
    refine Ew.iret hx hq dX7_permitsOn_59 rfl ?_
    rw [show i = npN s by omega]
    exact ⟨rfl, rfl⟩
  | succ n ih =>
    intro i hi
    refine Ew.iload hx dX7_permitsOn_5 rfl ?_
    refine Ew.aload_n hx dX7_permitsOn_7 rfl ?_
    refine Ew.getI hx dX7_permitsOn_8 fg_RX7_53 rfl ?_
    have hnp := hW.np.2
    rw [hR.nps, hW.np.1]
    refine Ew.icmp_ge_f hx (tgt := 58) dX7_permitsOn_11 rfl (nI_ge (by omega) (by omega)) ?_
    refine Ew.aload_n hx dX7_permitsOn_14 rfl ?_
    refine Ew.getR (9) hx dX7_permitsOn_15 fg_RX7_33 rfl rfl ?_
    refine Ew.iload hx dX7_permitsOn_18 rfl ?_
    refine Ew.aldq (14 + i) hx dX7_permitsOn_20 rg_8 rfl (rfl) (by omega) (by omega) ?_
    refine Ew.getI hx dX7_permitsOn_21 fg_RX7_108 (kd_pm (by omega)) ?_
    refine Ew.iload_n hx dX7_permitsOn_24 rfl ?_
    rw [hR.pm (show i < npN s by omega) (by omega) (by decide)]
    refine Ew.icmp_ne hx (tgt := 52) dX7_permitsOn_25 rfl (fun h25 => ?_) (fun h25 => ?_)
    · have e : cOn s x D (i + 1) = cOn s x D i := cntN_f (fun q => h25 q.1)
      refine Ew.iinc hx dX7_permitsOn_52 rfl (k_iinc_1 _) (by decide) rfl ?_
      refine Ew.goto hx (tgt := 5) dX7_permitsOn_55 rfl ?_
      have q := ih (i + 1) (by omega)
      rw [e] at q
      try rw [nI_1]
      try rw [nI_1]
      exact q
    · refine Ew.aload_n hx dX7_permitsOn_28 rfl ?_
      refine Ew.getR (9) hx dX7_permitsOn_29 fg_RX7_33 rfl rfl ?_
      refine Ew.iload hx dX7_permitsOn_32 rfl ?_
      refine Ew.aldq (14 + i) hx dX7_permitsOn_34 rg_8 rfl (rfl) (by omega) (by omega) ?_
      refine Ew.iload_n hx dX7_permitsOn_35 rfl ?_
      refine Ew.aload_n hx dX7_permitsOn_36 rfl ?_
      refine Ew.getR (3) hx dX7_permitsOn_37 fg_RX7_12 rfl rfl ?_
      refine Ew.getI hx dX7_permitsOn_40 fg_RX7_89 rfl ?_
      rw [hR.today]
      refine Ew.callV2 (y' := mX4_comesOn) hx dX7_permitsOn_43 ml_RX7_136 cf_X4_comesOn cv_X4_comesOn (ct_X4_comesOn G V (14 + i) _ _ (kd_pm (by omega))) (kd_pm (by omega)) oc_10 rfl (by decide) (by decide) rfl (Nat.le_of_ble_eq_true rfl) ?_
      rintro _ V9 ⟨rfl, h9⟩; subst V9
      rw [hR.pm (show i < npN s by omega) (by omega) (by decide), hR.pm (show i < npN s by omega) (by omega) (by decide), hR.pm (show i < npN s by omega) (by omega) (by decide)]
      refine Ew.ifeq_b hx (tgt := 52) dX7_permitsOn_46 rfl (fun h46 => ?_) (fun h46 => ?_)
      · have e : cOn s x D (i + 1) = cOn s x D i := cntN_f (fun q => h46 q.2)
        refine Ew.iinc hx dX7_permitsOn_52 rfl (k_iinc_1 _) (by decide) rfl ?_
        refine Ew.goto hx (tgt := 5) dX7_permitsOn_55 rfl ?_
        have q := ih (i + 1) (by omega)
        rw [e] at q
        try rw [nI_1]
        try rw [nI_1]
        exact q
      · have e : cOn s x D (i + 1) = cOn s x D i + 1 := cntN_t ⟨h25, h46⟩
        refine Ew.iinc hx dX7_permitsOn_49 rfl (k_iinc_1 _) (by decide) rfl ?_
        refine Ew.iinc hx dX7_permitsOn_52 rfl (k_iinc_1 _) (by decide) rfl ?_
        refine Ew.goto hx (tgt := 5) dX7_permitsOn_55 rfl ?_
        have q := ih (i + 1) (by omega)
        rw [e] at q
        try rw [nI_1]
        try rw [nI_1]
        exact q
set_option maxHeartbeats 4000000 in
set_option maxRecDepth 100000 in
theorem ct_X7_permitsOn (G : GT) (V : Mm) {s : Sv} {B : Int} (hR : Rep V 2 s) (hW : WF s B) (x : Int32) (D : Nat) : Ct G mX7_permitsOn 1 [adr G 2, .int x, .int (nI D)] (V) (Ri (nI (cOn s x D (npN s))) V) := by
  refine Ct.of cf_X7_permitsOn (List.forall_mem_cons.mpr ⟨rfl, List.forall_mem_cons.mpr ⟨rfl, List.forall_mem_cons.mpr ⟨rfl, fun _ h => absurd h List.not_mem_nil⟩⟩⟩) (Nat.le_of_ble_eq_true rfl) (l0 := [some (adr G 2), some (.int x), some (.int (nI D)), none, none]) rfl (fun C hx hq => ?_)
  refine Ew.iconst hx dX7_permitsOn_0 k_iconst_0 ?_
  refine Ew.istore_n hx dX7_permitsOn_1 (by decide) rfl ?_
  refine Ew.iconst hx dX7_permitsOn_2 k_iconst_0 ?_
  refine Ew.istore hx dX7_permitsOn_3 (by decide) rfl ?_
  exact lp_X7_permitsOn hR hW x D hx hq (npN s) 0 (by omega)
noncomputable def cTo (s : Sv) (x : Int32) (n : Nat) : Nat := cntN (fun p => pf s p 0 = x ∧ 0 < dtc s p) n
set_option maxHeartbeats 4000000 in
set_option maxRecDepth 100000 in
theorem lp_X7_permitsToComeFor {G : GT} {C : CT} {V : Mm} {s : Sv} {B : Int} (hR : Rep V 2 s) (hW : WF s B) (x : Int32) (hx : Cx G mX7_permitsToComeFor 1 C) (hq : Cq G (Ri (nI (cTo s x (npN s))) V) C) : ∀ (n i : Nat), i + n = npN s → Ew G C (V) 4 [some (adr G 2), some (.int x), some (.int (nI (cTo s x i))), some (.int (nI i))] [] := by
  intro n
  induction n with
  | zero =>
    intro i hi
    refine Ew.iload_n hx dX7_permitsToComeFor_4 rfl ?_
    refine Ew.aload_n hx dX7_permitsToComeFor_5 rfl ?_
    refine Ew.getI hx dX7_permitsToComeFor_6 fg_RX7_53 rfl ?_
    have hnp := hW.np.2
    rw [hR.nps, hW.np.1]
    refine Ew.icmp_ge_t hx (tgt := 53) dX7_permitsToComeFor_9 rfl (nI_le (by omega) (by omega)) ?_
    refine Ew.iload_n hx dX7_permitsToComeFor_53 rfl ?_
    refine Ew.iret hx hq dX7_permitsToComeFor_54 rfl ?_
    rw [show i = npN s by omega]
    exact ⟨rfl, rfl⟩
  | succ n ih =>
    intro i hi
    refine Ew.iload_n hx dX7_permitsToComeFor_4 rfl ?_
    refine Ew.aload_n hx dX7_permitsToComeFor_5 rfl ?_
    refine Ew.getI hx dX7_permitsToComeFor_6 fg_RX7_53 rfl ?_
    have hnp := hW.np.2
    rw [hR.nps, hW.np.1]
    refine Ew.icmp_ge_f hx (tgt := 53) dX7_permitsToComeFor_9 rfl (nI_ge (by omega) (by omega)) ?_
    refine Ew.aload_n hx dX7_permitsToComeFor_12 rfl ?_
    refine Ew.getR (9) hx dX7_permitsToComeFor_13 fg_RX7_33 rfl rfl ?_
    refine Ew.iload_n hx dX7_permitsToComeFor_16 rfl ?_
    refine Ew.aldq (14 + i) hx dX7_permitsToComeFor_17 rg_8 rfl (rfl) (by omega) (by omega) ?_
    refine Ew.getI hx dX7_permitsToComeFor_18 fg_RX7_108 (kd_pm (by omega)) ?_
    refine Ew.iload_n hx dX7_permitsToComeFor_21 rfl ?_
    rw [hR.pm (show i < npN s by omega) (by omega) (by decide)]
    refine Ew.icmp_ne hx (tgt := 47) dX7_permitsToComeFor_22 rfl (fun h22 => ?_) (fun h22 => ?_)
    · have e : cTo s x (i + 1) = cTo s x i := cntN_f (fun q => h22 q.1)
      refine Ew.iinc hx dX7_permitsToComeFor_47 rfl (k_iinc_1 _) (by decide) rfl ?_
      refine Ew.goto hx (tgt := 4) dX7_permitsToComeFor_50 rfl ?_
      have q := ih (i + 1) (by omega)
      rw [e] at q
      try rw [nI_1]
      try rw [nI_1]
      exact q
    · refine Ew.aload_n hx dX7_permitsToComeFor_25 rfl ?_
      refine Ew.getR (9) hx dX7_permitsToComeFor_26 fg_RX7_33 rfl rfl ?_
      refine Ew.iload_n hx dX7_permitsToComeFor_29 rfl ?_
      refine Ew.aldq (14 + i) hx dX7_permitsToComeFor_30 rg_8 rfl (rfl) (by omega) (by omega) ?_
      refine Ew.aload_n hx dX7_permitsToComeFor_31 rfl ?_
      refine Ew.getR (3) hx dX7_permitsToComeFor_32 fg_RX7_12 rfl rfl ?_
      refine Ew.getI hx dX7_permitsToComeFor_35 fg_RX7_89 rfl ?_
      rw [hR.today]
      refine Ew.callV2 (y' := mX4_daysToCome) hx dX7_permitsToComeFor_38 ml_RX7_104 cf_X4_daysToCome cv_X4_daysToCome (ct_X4_daysToCome G V (14 + i) _ (kd_pm (by omega))) (kd_pm (by omega)) oc_10 rfl (by decide) (by decide) rfl (Nat.le_of_ble_eq_true rfl) ?_
      rintro _ V9 ⟨rfl, h9⟩; subst V9
      rw [hR.pm (show i < npN s by omega) (by omega) (by decide), hR.pm (show i < npN s by omega) (by omega) (by decide), hR.pm (show i < npN s by omega) (by omega) (by decide)]
      refine Ew.if_le hx (tgt := 47) dX7_permitsToComeFor_41 rfl (fun h41 => ?_) (fun h41 => ?_)
      · have e : cTo s x (i + 1) = cTo s x i := cntN_f (fun q => by have q2 := q.2; unfold dtc at q2; rw [ie] at h41; rw [il] at q2; omega)
        refine Ew.iinc hx dX7_permitsToComeFor_47 rfl (k_iinc_1 _) (by decide) rfl ?_
        refine Ew.goto hx (tgt := 4) dX7_permitsToComeFor_50 rfl ?_
        have q := ih (i + 1) (by omega)
        rw [e] at q
        try rw [nI_1]
        try rw [nI_1]
        exact q
      · have e : cTo s x (i + 1) = cTo s x i + 1 := cntN_t ⟨h22, by unfold dtc; rw [ie] at h41; rw [il]; omega⟩
        refine Ew.iinc hx dX7_permitsToComeFor_44 rfl (k_iinc_1 _) (by decide) rfl ?_
        refine Ew.iinc hx dX7_permitsToComeFor_47 rfl (k_iinc_1 _) (by decide) rfl ?_
        refine Ew.goto hx (tgt := 4) dX7_permitsToComeFor_50 rfl ?_
        have q := ih (i + 1) (by omega)
        rw [e] at q
        try rw [nI_1]
        try rw [nI_1]
        exact q
set_option maxHeartbeats 4000000 in
set_option maxRecDepth 100000 in
theorem ct_X7_permitsToComeFor (G : GT) (V : Mm) {s : Sv} {B : Int} (hR : Rep V 2 s) (hW : WF s B) (x : Int32) : Ct G mX7_permitsToComeFor 1 [adr G 2, .int x] (V) (Ri (nI (cTo s x (npN s))) V) := by
  refine Ct.of cf_X7_permitsToComeFor (List.forall_mem_cons.mpr ⟨rfl, List.forall_mem_cons.mpr ⟨rfl, fun _ h => absurd h List.not_mem_nil⟩⟩) (Nat.le_of_ble_eq_true rfl) (l0 := [some (adr G 2), some (.int x), none, none]) rfl (fun C hx hq => ?_)
  refine Ew.iconst hx dX7_permitsToComeFor_0 k_iconst_0 ?_
  refine Ew.istore_n hx dX7_permitsToComeFor_1 (by decide) rfl ?_
  refine Ew.iconst hx dX7_permitsToComeFor_2 k_iconst_0 ?_
  refine Ew.istore_n hx dX7_permitsToComeFor_3 (by decide) rfl ?_
  exact lp_X7_permitsToComeFor hR hW x hx hq (npN s) 0 (by omega)
set_option maxHeartbeats 4000000 in
set_option maxRecDepth 100000 in
theorem lp_X7_permitsToCome {G : GT} {C : CT} {V : Mm} {s : Sv} {B : Int} (hR : Rep V 2 s) (hW : WF s B) (hx : Cx G mX7_permitsToCome 2 C) (hq : Cq G (Ri (sumN (fun r => nI (cTo s (nI r) (npN s))) (nrN s)) V) C) : ∀ (n i : Nat), i + n = nrN s → Ew G C (V) 4 [some (adr G 2), some (.int (sumN (fun r => nI (cTo s (nI r) (npN s))) i)), some (.int (nI i))] [] := by
  intro n
  induction n with
  | zero =>
    intro i hi
    refine Ew.iload_n hx dX7_permitsToCome_4 rfl ?_
    refine Ew.aload_n hx dX7_permitsToCome_5 rfl ?_
    refine Ew.getI hx dX7_permitsToCome_6 fg_RX7_46 rfl ?_
    have hnr := hW.nr.2
    rw [hR.nrs, hW.nr.1]
    refine Ew.icmp_ge_t hx (tgt := 26) dX7_permitsToCome_9 rfl (nI_le (by omega) (by omega)) ?_
    refine Ew.iload_n hx dX7_permitsToCome_26 rfl ?_
    refine Ew.iret hx hq dX7_permitsToCome_27 rfl ?_
    rw [show i = nrN s by omega]
    exact ⟨rfl, rfl⟩
  | succ n ih =>
    intro i hi
    refine Ew.iload_n hx dX7_permitsToCome_4 rfl ?_
    refine Ew.aload_n hx dX7_permitsToCome_5 rfl ?_
    refine Ew.getI hx dX7_permitsToCome_6 fg_RX7_46 rfl ?_
    have hnr := hW.nr.2
    rw [hR.nrs, hW.nr.1]
    refine Ew.icmp_ge_f hx (tgt := 26) dX7_permitsToCome_9 rfl (nI_ge (by omega) (by omega)) ?_
    refine Ew.iload_n hx dX7_permitsToCome_12 rfl ?_
    refine Ew.aload_n hx dX7_permitsToCome_13 rfl ?_
    refine Ew.iload_n hx dX7_permitsToCome_14 rfl ?_
    refine Ew.callV2 (y' := mX7_permitsToComeFor) hx dX7_permitsToCome_15 ml_RX7_169 cf_X7_permitsToComeFor cv_X7_permitsToComeFor (ct_X7_permitsToComeFor G V hR hW _) rfl oc_2 rfl (by decide) (by decide) rfl (Nat.le_of_ble_eq_true rfl) ?_
    rintro _ V9 ⟨rfl, h9⟩; subst V9
    refine Ew.iadd hx dX7_permitsToCome_18 ?_
    refine Ew.istore_n hx dX7_permitsToCome_19 (by decide) rfl ?_
    refine Ew.iinc hx dX7_permitsToCome_20 rfl (k_iinc_1 _) (by decide) rfl ?_
    refine Ew.goto hx (tgt := 4) dX7_permitsToCome_23 rfl ?_
    have q := ih (i + 1) (by omega)
    rw [nI_1]
    exact q
set_option maxHeartbeats 4000000 in
set_option maxRecDepth 100000 in
theorem ct_X7_permitsToCome (G : GT) (V : Mm) {s : Sv} {B : Int} (hR : Rep V 2 s) (hW : WF s B) : Ct G mX7_permitsToCome 2 [adr G 2] (V) (Ri (sumN (fun r => nI (cTo s (nI r) (npN s))) (nrN s)) V) := by
  refine Ct.of cf_X7_permitsToCome (List.forall_mem_cons.mpr ⟨rfl, fun _ h => absurd h List.not_mem_nil⟩) (Nat.le_of_ble_eq_true rfl) (l0 := [some (adr G 2), none, none]) rfl (fun C hx hq => ?_)
  refine Ew.iconst hx dX7_permitsToCome_0 k_iconst_0 ?_
  refine Ew.istore_n hx dX7_permitsToCome_1 (by decide) rfl ?_
  refine Ew.iconst hx dX7_permitsToCome_2 k_iconst_0 ?_
  refine Ew.istore_n hx dX7_permitsToCome_3 (by decide) rfl ?_
  exact lp_X7_permitsToCome hR hW hx hq (nrN s) 0 (by omega)
set_option maxHeartbeats 4000000 in
set_option maxRecDepth 100000 in
theorem lp_X7_sumOf {G : GT} {C : CT} {V : Mm} {s : Sv} {B : Int} (hR : Rep V 2 s) (hW : WF s B) (w : Int32) (hx : Cx G mX7_sumOf 2 C) (hq : Cq G (Ri (sumN (fun p => prI (V (14 + p)) w (s 0)) (npN s)) V) C) : ∀ (n i : Nat), i + n = npN s → Ew G C (V) 4 [some (adr G 2), some (.int w), some (.int (sumN (fun p => prI (V (14 + p)) w (s 0)) i)), some (.int (nI i))] [] := by
  intro n
  induction n with
  | zero =>
    intro i hi
    refine Ew.iload_n hx dX7_sumOf_4 rfl ?_
    refine Ew.aload_n hx dX7_sumOf_5 rfl ?_
    refine Ew.getI hx dX7_sumOf_6 fg_RX7_53 rfl ?_
    have hnp := hW.np.2
    rw [hR.nps, hW.np.1]
    refine Ew.icmp_ge_t hx (tgt := 38) dX7_sumOf_9 rfl (nI_le (by omega) (by omega)) ?_
    refine Ew.iload_n hx dX7_sumOf_38 rfl ?_
    refine Ew.iret hx hq dX7_sumOf_39 rfl ?_
    rw [show i = npN s by omega]
    exact ⟨rfl, rfl⟩
  | succ n ih =>
    intro i hi
    refine Ew.iload_n hx dX7_sumOf_4 rfl ?_
    refine Ew.aload_n hx dX7_sumOf_5 rfl ?_
    refine Ew.getI hx dX7_sumOf_6 fg_RX7_53 rfl ?_
    have hnp := hW.np.2
    rw [hR.nps, hW.np.1]
    refine Ew.icmp_ge_f hx (tgt := 38) dX7_sumOf_9 rfl (nI_ge (by omega) (by omega)) ?_
    refine Ew.iload_n hx dX7_sumOf_12 rfl ?_
    refine Ew.aload_n hx dX7_sumOf_13 rfl ?_
    refine Ew.getR (9) hx dX7_sumOf_14 fg_RX7_33 rfl rfl ?_
    refine Ew.iload_n hx dX7_sumOf_17 rfl ?_
    refine Ew.aldq (14 + i) hx dX7_sumOf_18 rg_8 rfl (rfl) (by omega) (by omega) ?_
    refine Ew.iload_n hx dX7_sumOf_19 rfl ?_
    refine Ew.aload_n hx dX7_sumOf_20 rfl ?_
    refine Ew.getR (3) hx dX7_sumOf_21 fg_RX7_12 rfl rfl ?_
    refine Ew.getI hx dX7_sumOf_24 fg_RX7_89 rfl ?_
    rw [hR.today]
    refine Ew.callV2 (y' := mX4_property) hx dX7_sumOf_27 ml_RX7_172 cf_X4_property cv_X4_property (ct_X4_property G V (14 + i) _ _ (kd_pm (by omega)) (by rw [hR.pm (show i < npN s by omega) (by omega) (by decide)]; exact hW.c01 (by omega))) (kd_pm (by omega)) oc_10 rfl (by decide) (by decide) rfl (Nat.le_of_ble_eq_true rfl) ?_
    rintro _ V9 ⟨rfl, h9⟩; subst V9
    refine Ew.iadd hx dX7_sumOf_30 ?_
    refine Ew.istore_n hx dX7_sumOf_31 (by decide) rfl ?_
    refine Ew.iinc hx dX7_sumOf_32 rfl (k_iinc_1 _) (by decide) rfl ?_
    refine Ew.goto hx (tgt := 4) dX7_sumOf_35 rfl ?_
    have q := ih (i + 1) (by omega)
    rw [nI_1]
    exact q
set_option maxHeartbeats 4000000 in
set_option maxRecDepth 100000 in
theorem ct_X7_sumOf (G : GT) (V : Mm) {s : Sv} {B : Int} (hR : Rep V 2 s) (hW : WF s B) (w : Int32) : Ct G mX7_sumOf 2 [adr G 2, .int w] (V) (Ri (sumN (fun p => prI (V (14 + p)) w (s 0)) (npN s)) V) := by
  refine Ct.of cf_X7_sumOf (List.forall_mem_cons.mpr ⟨rfl, List.forall_mem_cons.mpr ⟨rfl, fun _ h => absurd h List.not_mem_nil⟩⟩) (Nat.le_of_ble_eq_true rfl) (l0 := [some (adr G 2), some (.int w), none, none]) rfl (fun C hx hq => ?_)
  refine Ew.iconst hx dX7_sumOf_0 k_iconst_0 ?_
  refine Ew.istore_n hx dX7_sumOf_1 (by decide) rfl ?_
  refine Ew.iconst hx dX7_sumOf_2 k_iconst_0 ?_
  refine Ew.istore_n hx dX7_sumOf_3 (by decide) rfl ?_
  exact lp_X7_sumOf hR hW w hx hq (npN s) 0 (by omega)
set_option maxHeartbeats 4000000 in
set_option maxRecDepth 100000 in
theorem lp_X7_feesToCome {G : GT} {C : CT} {V : Mm} {s : Sv} {B : Int} (hR : Rep V 2 s) (hW : WF s B) (hx : Cx G mX7_feesToCome 1 C) (hq : Cq G (Ri (sumN (fun p => pf s p 4 * dtc s p) (npN s)) V) C) : ∀ (n i : Nat), i + n = npN s → Ew G C (V) 4 [some (adr G 2), some (.int (sumN (fun p => pf s p 4 * dtc s p) i)), some (.int (nI i))] [] := by
  intro n
  induction n with
  | zero =>
    intro i hi
    refine Ew.iload_n hx dX7_feesToCome_4 rfl ?_
    refine Ew.aload_n hx dX7_feesToCome_5 rfl ?_
    refine Ew.getI hx dX7_feesToCome_6 fg_RX7_53 rfl ?_
    have hnp := hW.np.2
    rw [hR.nps, hW.np.1]
    refine Ew.icmp_ge_t hx (tgt := 47) dX7_feesToCome_9 rfl (nI_le (by omega) (by omega)) ?_
    refine Ew.iload_n hx dX7_feesToCome_47 rfl ?_
    refine Ew.iret hx hq dX7_feesToCome_48 rfl ?_
    rw [show i = npN s by omega]
    exact ⟨rfl, rfl⟩
  | succ n ih =>
    intro i hi
    refine Ew.iload_n hx dX7_feesToCome_4 rfl ?_
    refine Ew.aload_n hx dX7_feesToCome_5 rfl ?_
    refine Ew.getI hx dX7_feesToCome_6 fg_RX7_53 rfl ?_
    have hnp := hW.np.2
    rw [hR.nps, hW.np.1]
    refine Ew.icmp_ge_f hx (tgt := 47) dX7_feesToCome_9 rfl (nI_ge (by omega) (by omega)) ?_
    refine Ew.iload_n hx dX7_feesToCome_12 rfl ?_
    refine Ew.aload_n hx dX7_feesToCome_13 rfl ?_
    refine Ew.getR (9) hx dX7_feesToCome_14 fg_RX7_33 rfl rfl ?_
    refine Ew.iload_n hx dX7_feesToCome_17 rfl ?_
    refine Ew.aldq (14 + i) hx dX7_feesToCome_18 rg_8 rfl (rfl) (by omega) (by omega) ?_
    refine Ew.getI hx dX7_feesToCome_19 fg_RX7_175 (kd_pm (by omega)) ?_
    refine Ew.aload_n hx dX7_feesToCome_22 rfl ?_
    refine Ew.getR (9) hx dX7_feesToCome_23 fg_RX7_33 rfl rfl ?_
    refine Ew.iload_n hx dX7_feesToCome_26 rfl ?_
    refine Ew.aldq (14 + i) hx dX7_feesToCome_27 rg_8 rfl (rfl) (by omega) (by omega) ?_
    refine Ew.aload_n hx dX7_feesToCome_28 rfl ?_
    refine Ew.getR (3) hx dX7_feesToCome_29 fg_RX7_12 rfl rfl ?_
    refine Ew.getI hx dX7_feesToCome_32 fg_RX7_89 rfl ?_
    rw [hR.today]
    refine Ew.callV2 (y' := mX4_daysToCome) hx dX7_feesToCome_35 ml_RX7_104 cf_X4_daysToCome cv_X4_daysToCome (ct_X4_daysToCome G V (14 + i) _ (kd_pm (by omega))) (kd_pm (by omega)) oc_10 rfl (by decide) (by decide) rfl (Nat.le_of_ble_eq_true rfl) ?_
    rintro _ V9 ⟨rfl, h9⟩; subst V9
    rw [hR.pm (show i < npN s by omega) (by omega) (by decide), hR.pm (show i < npN s by omega) (by omega) (by decide), hR.pm (show i < npN s by omega) (by omega) (by decide), hR.pm (show i < npN s by omega) (by omega) (by decide)]
    refine Ew.imul hx dX7_feesToCome_38 ?_
    refine Ew.iadd hx dX7_feesToCome_39 ?_
    refine Ew.istore_n hx dX7_feesToCome_40 (by decide) rfl ?_
    refine Ew.iinc hx dX7_feesToCome_41 rfl (k_iinc_1 _) (by decide) rfl ?_
    refine Ew.goto hx (tgt := 4) dX7_feesToCome_44 rfl ?_
    have q := ih (i + 1) (by omega)
    rw [nI_1]
    exact q
set_option maxHeartbeats 4000000 in
set_option maxRecDepth 100000 in
theorem ct_X7_feesToCome (G : GT) (V : Mm) {s : Sv} {B : Int} (hR : Rep V 2 s) (hW : WF s B) : Ct G mX7_feesToCome 1 [adr G 2] (V) (Ri (sumN (fun p => pf s p 4 * dtc s p) (npN s)) V) := by
  refine Ct.of cf_X7_feesToCome (List.forall_mem_cons.mpr ⟨rfl, fun _ h => absurd h List.not_mem_nil⟩) (Nat.le_of_ble_eq_true rfl) (l0 := [some (adr G 2), none, none]) rfl (fun C hx hq => ?_)
  refine Ew.iconst hx dX7_feesToCome_0 k_iconst_0 ?_
  refine Ew.istore_n hx dX7_feesToCome_1 (by decide) rfl ?_
  refine Ew.iconst hx dX7_feesToCome_2 k_iconst_0 ?_
  refine Ew.istore_n hx dX7_feesToCome_3 (by decide) rfl ?_
  exact lp_X7_feesToCome hR hW hx hq (npN s) 0 (by omega)
