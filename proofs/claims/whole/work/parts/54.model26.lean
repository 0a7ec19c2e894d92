noncomputable def mF (s : Sv) (w : Int32) (p : Nat) : Int32 := cif (w.toInt < 4) (pf s p (5 + nt w)) (pf s p 4 * dtc s p)
theorem mF_an (s : Sv) {w : Int32} (h : 0 ≤ w.toInt ∧ w.toInt < 5) : sumN (mF s w) (npN s) = anMoney s w := by
  unfold anMoney
  by_cases q : w.toInt < 4
  · rw [cif_t (by rw [ie, ie, tl_0, tl_3]; omega)]
    exact sumN_c _ (fun p _ => cif_t q)
  · rw [cif_f (by rw [ie, ie, tl_0, tl_3]; omega), cif_t (by rw [iq, tl_4]; omega)]
    exact sumN_c _ (fun p _ => cif_f q)
def lL (s : Sv) (a i : Nat) : Int32 := if i = 0 then FC s (a - tN s) else lwF s a (a + i - tN s)
theorem lL_s {s : Sv} {B : Int} (hW : WF s B) {a : Nat} (ha : tN s ≤ a) (i : Nat) : lL s a (i + 1) = if FC s (a + i - tN s) < lL s a i then FC s (a + i - tN s) else lL s a i := by
  have e1 : lL s a (i + 1) = lwF s a (a + i - tN s + 1) := by
    unfold lL
    rw [if_neg (by omega), show a + (i + 1) - tN s = a + i - tN s + 1 by omega]
  rw [e1]
  by_cases q : i = 0
  · subst q
    have e := lw_one hW ha
    rw [show a + 1 - tN s = a + 0 - tN s + 1 by omega] at e
    rw [e, show lL s a 0 = FC s (a - tN s) from if_pos rfl, show a + 0 = a from rfl]
    rw [if_neg (by rw [il]; omega)]
  · rw [show lL s a i = lwF s a (a + i - tN s) from if_neg q]
    by_cases q2 : FC s (a + i - tN s) < lwF s a (a + i - tN s)
    · rw [if_pos q2]
      exact if_pos ⟨by omega, q2⟩
    · rw [if_neg q2]
      exact if_neg (fun z => q2 z.2)
theorem bO_lt {s : Sv} {a b : Nat} {d : Int32} : ∀ n r, bO s a b d n = some r → r < n
  | 0, r, h => by cases h
  | n + 1, r, h => by
    by_cases q : (∀ r, bO s a b d n = some r → rf s n 2 < rf s r 2) ∧ fitP s n a b d
    · rw [show bO s a b d (n + 1) = some n from cif_t q] at h
      cases h
      omega
    · rw [show bO s a b d (n + 1) = bO s a b d n from cif_f q] at h
      have := bO_lt n r h
      omega
theorem bO_some {s : Sv} {a b n : Nat} {d : Int32} (h : ¬ bV (bO s a b d n) = -100009) : ∃ r, bO s a b d n = some r ∧ r < n := by
  cases q : bO s a b d n with
  | none => rw [q] at h; exact absurd rfl h
  | some r => exact ⟨r, rfl, bO_lt n r q⟩
theorem bO_none {s : Sv} {a b n : Nat} {d : Int32} (h : bV (bO s a b d n) = -100009) (hn : n ≤ 4) : ∀ r, bO s a b d n = some r → rf s n 2 < rf s r 2 := fun r q => by
  have hr := bO_lt n r q
  rw [q] at h
  have h2 : (nI r).toInt = -100009 := by
    rw [show nI r = -100009 from h]
    exact tl_m100009
  rw [tn (by omega)] at h2
  omega
set_option maxHeartbeats 4000000 in
set_option maxRecDepth 100000 in
theorem lp_X12_money {G : GT} {C : CT} {V : Mm} {s : Sv} {B : Int} (hM : MR V s) (hW : WF s B) {w : Int32} (hw : 0 ≤ w.toInt ∧ w.toInt < 5) (hx : Cx G mX12_money 3 C) (hq : Cq G (Ri (anMoney s w) (mup V 532 0 0)) C) : ∀ (n i : Nat), i + n = npN s → Ew G C (mup V 532 0 0) 36 [some (adr G 532), some (.int w), some (.int (sumN (mF s w) i)), some (.int (nI i))] [] := by
  intro n
  induction n with
  | zero =>
    intro i hi
    refine Ew.iload_n hx dX12_money_36 rfl ?_
    refine Ew.aload_n hx dX12_money_37 rfl ?_
    refine Ew.getR (533) hx dX12_money_38 fg_RX12_7 rfl rfl ?_
    refine Ew.iconst hx dX12_money_41 k_iconst_3 ?_
    refine Ew.iald (i := 3) hx dX12_money_42 ag_20 rfl (rfl) (by decide) ?_
    have hnp := hW.np
    rw [hM.m0 3 (by decide), hnp.1]
    refine Ew.icmp_ge_t hx (tgt := 88) dX12_money_43 rfl (nI_le (by omega) (by omega)) ?_
    refine Ew.iload_n hx dX12_money_88 rfl ?_
    refine Ew.iret hx hq dX12_money_89 rfl ?_
    refine ⟨congrArg (fun z => some (Value.int z)) ?_, rfl⟩
    rw [show i = npN s by omega, mF_an s hw]
  | succ n ih =>
    intro i hi
    refine Ew.iload_n hx dX12_money_36 rfl ?_
    refine Ew.aload_n hx dX12_money_37 rfl ?_
    refine Ew.getR (533) hx dX12_money_38 fg_RX12_7 rfl rfl ?_
    refine Ew.iconst hx dX12_money_41 k_iconst_3 ?_
    refine Ew.iald (i := 3) hx dX12_money_42 ag_20 rfl (rfl) (by decide) ?_
    have hnp := hW.np
    rw [hM.m0 3 (by decide), hnp.1]
    refine Ew.icmp_ge_f hx (tgt := 88) dX12_money_43 rfl (nI_ge (by omega) (by omega)) ?_
    refine Ew.iload_n hx dX12_money_46 rfl ?_
    refine Ew.iconst hx dX12_money_47 k_iconst_5 ?_
    refine Ew.icmp_ge_f hx (tgt := 88) dX12_money_48 rfl (fun q => by rw [ie, tl_5] at q; omega) ?_
    refine Ew.iload_n hx dX12_money_51 rfl ?_
    refine Ew.iload_n hx dX12_money_52 rfl ?_
    refine Ew.iconst hx dX12_money_53 k_iconst_4 ?_
    refine Ew.icmp_ge hx (tgt := 68) dX12_money_54 rfl (fun h54 => ?_) (fun h54 => ?_)
    · have h4 : ¬ w.toInt < 4 := by rw [ie, tl_4] at h54; omega
      have hc : sumN (mF s w) i + s (49 + 12 * i + 4) * dtc s i = sumN (mF s w) (i + 1) := congrArg (fun z => sumN (mF s w) i + z) (show s (49 + 12 * i + 4) * dtc s i = mF s w i from (cif_f h4).symm)
      refine Ew.aload_n hx dX12_money_68 rfl ?_
      refine Ew.iload_n hx dX12_money_69 rfl ?_
      refine Ew.iconst hx dX12_money_70 k_iconst_4 ?_
      refine Ew.callV2 (y' := mX12_of) hx dX12_money_71 ml_RX12_53 cf_X12_of cv_X12_of (ct_X12_of G _ (p := i) (by omega) (j := 4) (by decide)) rfl oc_19 rfl (by decide) (by decide) rfl (Nat.le_of_ble_eq_true rfl) ?_
      rintro _ V9 ⟨rfl, h9⟩; subst V9
      rw [hM.m0 _ (by omega)]
      refine Ew.aload_n hx dX12_money_74 rfl ?_
      refine Ew.iload_n hx dX12_money_75 rfl ?_
      refine Ew.callV2 (y' := mX12_daysToCome) hx dX12_money_76 ml_RX12_115 cf_X12_daysToCome cv_X12_daysToCome (ct_X12_daysToCome G _ hM.m0 hW (p := i) (by omega)) rfl oc_19 rfl (by decide) (by decide) rfl (Nat.le_of_ble_eq_true rfl) ?_
      rintro _ V9 ⟨rfl, h9⟩; subst V9
      refine Ew.imul hx dX12_money_79 ?_
      refine Ew.iadd hx dX12_money_80 ?_
      rw [hc]
      refine Ew.istore_n hx dX12_money_81 (by decide) rfl ?_
      refine Ew.iinc hx dX12_money_82 rfl (k_iinc_1 _) (by decide) rfl ?_
      refine Ew.goto hx (tgt := 36) dX12_money_85 rfl ?_
      rw [nI_1]
      exact ih (i + 1) (by omega)
    · have h4 : w.toInt < 4 := by rw [ie, tl_4] at h54; omega
      have ew : w = nI (nt w) := ofNI hw.1
      have hn : 5 + nt w < 12 := by unfold nt; omega
      have hc : sumN (mF s w) i + s (49 + 12 * i + (5 + nt w)) = sumN (mF s w) (i + 1) := congrArg (fun z => sumN (mF s w) i + z) (show s (49 + 12 * i + (5 + nt w)) = mF s w i from (cif_t h4).symm)
      refine Ew.aload_n hx dX12_money_57 rfl ?_
      refine Ew.iload_n hx dX12_money_58 rfl ?_
      refine Ew.iconst hx dX12_money_59 k_iconst_5 ?_
      refine Ew.iload_n hx dX12_money_60 rfl ?_
      refine Ew.iadd hx dX12_money_61 ?_
      rw [show Value.int (5 + w) = Value.int (nI (5 + nt w)) from congrArg Value.int ((congrArg (fun z : Int32 => 5 + z) ew).trans (nI_add 5 _))]
      refine Ew.callV2 (y' := mX12_of) hx dX12_money_62 ml_RX12_53 cf_X12_of cv_X12_of (ct_X12_of G _ (p := i) (by omega) hn) rfl oc_19 rfl (by decide) (by decide) rfl (Nat.le_of_ble_eq_true rfl) ?_
      rintro _ V9 ⟨rfl, h9⟩; subst V9
      rw [hM.m0 _ (by omega)]
      refine Ew.goto hx (tgt := 80) dX12_money_65 rfl ?_
      refine Ew.iadd hx dX12_money_80 ?_
      rw [hc]
      refine Ew.istore_n hx dX12_money_81 (by decide) rfl ?_
      refine Ew.iinc hx dX12_money_82 rfl (k_iinc_1 _) (by decide) rfl ?_
      refine Ew.goto hx (tgt := 36) dX12_money_85 rfl ?_
      rw [nI_1]
      exact ih (i + 1) (by omega)
set_option maxHeartbeats 4000000 in
set_option maxRecDepth 100000 in
theorem ct_X12_money (G : GT) (V : Mm) {s : Sv} {B : Int} (hM : MR V s) (hW : WF s B) (w : Int32) : Ct G mX12_money 3 [adr G 532, .int w] (V) (Ri (anMoney s w) (mup V 532 0 0)) := by
  refine Ct.of cf_X12_money (List.forall_mem_cons.mpr ⟨rfl, List.forall_mem_cons.mpr ⟨rfl, fun _ h => absurd h List.not_mem_nil⟩⟩) (Nat.le_of_ble_eq_true rfl) (l0 := [some (adr G 532), some (.int w), none, none]) rfl (fun C hx hq => ?_)
  refine Ew.aload_n hx dX12_money_0 rfl ?_
  refine Ew.iconst hx dX12_money_1 k_iconst_0 ?_
  refine Ew.putI hx dX12_money_2 pg_RX12_31 rfl ?_
  refine Ew.iload_n hx dX12_money_5 rfl ?_
  refine Ew.iconst hx dX12_money_6 k_iconst_0 ?_
  refine Ew.iconst hx dX12_money_7 k_iconst_5 ?_
  refine Ew.callS (y' := mX12_in) hx dX12_money_8 ml_RX12_38 cf_X12_in cs_X12_in (ct_X12_in G _ _ _ _) rfl (by decide) (by decide) rfl (Nat.le_of_ble_eq_true rfl) ?_
  rintro _ V9 ⟨rfl, h9⟩; subst V9
  refine Ew.ifne_b hx (tgt := 17) dX12_money_11 rfl (fun h11 => ?_) (fun h11 => ?_)
  · have hw2 := h11
    rw [ie, ie, tl_0, tl_5] at hw2
    refine Ew.iload_n hx dX12_money_17 rfl ?_
    refine Ew.iconst hx dX12_money_18 k_iconst_5 ?_
    refine Ew.icmp_ne hx (tgt := 32) dX12_money_19 rfl (fun h19 => ?_) (fun h19 => ?_)
    · refine Ew.iconst hx dX12_money_32 k_iconst_0 ?_
      refine Ew.istore_n hx dX12_money_33 (by decide) rfl ?_
      refine Ew.iconst hx dX12_money_34 k_iconst_0 ?_
      refine Ew.istore_n hx dX12_money_35 (by decide) rfl ?_
      exact lp_X12_money hM hW (by rw [iq, tl_5] at h19; omega) hx hq (npN s) 0 (by omega)
    · have h5 := h19
      subst h5
      refine Ew.aload_n hx dX12_money_22 rfl ?_
      refine Ew.getR (533) hx dX12_money_23 fg_RX12_7 rfl rfl ?_
      refine Ew.bipush hx dX12_money_26 k_bipush_10 ?_
      refine Ew.iald (i := 10) hx dX12_money_28 ag_20 rfl (rfl) (by decide) ?_
      rw [hM.m0 10 (by decide)]
      refine Ew.goto hx (tgt := 33) dX12_money_29 rfl ?_
      refine Ew.istore_n hx dX12_money_33 (by decide) rfl ?_
      refine Ew.iconst hx dX12_money_34 k_iconst_0 ?_
      refine Ew.istore_n hx dX12_money_35 (by decide) rfl ?_
      refine Ew.iload_n hx dX12_money_36 rfl ?_
      refine Ew.aload_n hx dX12_money_37 rfl ?_
      refine Ew.getR (533) hx dX12_money_38 fg_RX12_7 rfl rfl ?_
      refine Ew.iconst hx dX12_money_41 k_iconst_3 ?_
      refine Ew.iald (i := 3) hx dX12_money_42 ag_20 rfl (rfl) (by decide) ?_
      refine Ew.icmp_ge hx (tgt := 88) dX12_money_43 rfl (fun h43 => ?_) (fun h43 => ?_)
      · refine Ew.iload_n hx dX12_money_88 rfl ?_
        refine Ew.iret hx hq dX12_money_89 rfl ?_
        refine ⟨congrArg (fun z => some (Value.int z)) ?_, rfl⟩
        unfold anMoney
        rw [cif_f (by decide), cif_f (by decide), cif_t rfl]
      · refine Ew.iload_n hx dX12_money_46 rfl ?_
        refine Ew.iconst hx dX12_money_47 k_iconst_5 ?_
        refine Ew.icmp_ge_t hx (tgt := 88) dX12_money_48 rfl (by decide) ?_
        refine Ew.iload_n hx dX12_money_88 rfl ?_
        refine Ew.iret hx hq dX12_money_89 rfl ?_
        refine ⟨congrArg (fun z => some (Value.int z)) ?_, rfl⟩
        unfold anMoney
        rw [cif_f (by decide), cif_f (by decide), cif_t rfl]
  · have ec : anMoney s w = -100001 := by
      unfold anMoney
      rw [cif_f (fun q => h11 ⟨q.1, by have q2 := q.2; rw [ie, tl_3] at q2; rw [ie, tl_5]; omega⟩), cif_f (fun q => h11 (by rw [q]; decide)), cif_f (fun q => h11 (by rw [q]; decide))]
    refine Ew.ldc hx dX12_money_14 kn_RX12_69 ?_
    refine Ew.iret hx hq dX12_money_16 rfl ?_
    refine ⟨congrArg (fun z => some (Value.int z)) ?_, rfl⟩
    exact ec.symm
set_option maxHeartbeats 4000000 in
set_option maxRecDepth 100000 in
theorem lp_X12_clos {G : GT} {C : CT} {V : Mm} {s : Sv} {B : Int} (hM : MR V s) (hW : WF s B) {r : Nat} {d A : Int32} (hr4 : r < 4) (hx : Cx G mX12_closure 2 C) (hq : Cq G (QR V A) C) : ∀ (n i : Nat), i + n = 182 - tN s → fcS s r d n i = A → Ew G C (fV (mup V 532 0 0) s 182) 34 [some (adr G 532), some (.int (nI r)), some (.int d), some (.int (nI (tN s + i)))] [] := by
  intro n
  induction n with
  | zero =>
    intro i hi hs
    refine Ew.iload_n hx dX12_closure_34 rfl ?_
    refine Ew.sipush hx dX12_closure_35 k_sipush_181 ?_
    have ht := hW.t
    refine Ew.icmp_gt_t hx (tgt := 64) dX12_closure_38 rfl (nI_lt (a := 181) (by omega) (by omega)) ?_
    refine Ew.ldc hx dX12_closure_64 kn_RX12_200 ?_
    refine Ew.iret hx hq dX12_closure_66 rfl ?_
    rw [show (-100009 : Int32) = A from hs]
    exact QR.fv
  | succ n ih =>
    intro i hi hs
    refine Ew.iload_n hx dX12_closure_34 rfl ?_
    refine Ew.sipush hx dX12_closure_35 k_sipush_181 ?_
    have ht := hW.t
    refine Ew.icmp_gt_f hx (tgt := 64) dX12_closure_38 rfl (nI_nlt (a := 181) (by omega) (by omega)) ?_
    refine Ew.aload_n hx dX12_closure_41 rfl ?_
    refine Ew.iload_n hx dX12_closure_42 rfl ?_
    refine Ew.iload_n hx dX12_closure_43 rfl ?_
    refine Ew.aload_n hx dX12_closure_44 rfl ?_
    refine Ew.getR (536) hx dX12_closure_45 fg_RX12_19 rfl rfl ?_
    refine Ew.iload_n hx dX12_closure_48 rfl ?_
    refine Ew.iald (i := tN s + i) hx dX12_closure_49 ag_22 rfl (rfl) (by omega) ?_
    rw [fV_at _ s (by omega), show tN s + i - tN s = i by omega]
    refine Ew.callV2 (y' := mX12_isOpen) hx dX12_closure_50 ml_RX12_62 cf_X12_isOpen cv_X12_isOpen (ct_X12_isOpen G _ (hM.m0.fV 182) hr4 d _) rfl oc_19 rfl (by decide) (by decide) rfl (Nat.le_of_ble_eq_true rfl) ?_
    rintro _ V9 ⟨rfl, h9⟩; subst V9
    refine Ew.ifne_b hx (tgt := 58) dX12_closure_53 rfl (fun h53 => ?_) (fun h53 => ?_)
    · have hr : _ = A := (cif_t h53).symm.trans hs
      refine Ew.iinc hx dX12_closure_58 rfl (k_iinc_1 _) (by decide) rfl ?_
      refine Ew.goto hx (tgt := 34) dX12_closure_61 rfl ?_
      rw [nI_1]
      exact ih (i + 1) (by omega) hr
    · have hr : _ = A := (cif_f h53).symm.trans hs
      refine Ew.iload_n hx dX12_closure_56 rfl ?_
      refine Ew.iret hx hq dX12_closure_57 rfl ?_
      rw [hr]
      exact QR.fv
set_option maxHeartbeats 4000000 in
set_option maxRecDepth 100000 in
theorem ct_X12_closure (G : GT) (V : Mm) {s : Sv} {B : Int} (hM : MR V s) (hW : WF s B) (x d : Int32) : Ct G mX12_closure 2 [adr G 532, .int x, .int d] (V) (QR V (anClosure s x d)) := by
  refine Ct.of cf_X12_closure (List.forall_mem_cons.mpr ⟨rfl, List.forall_mem_cons.mpr ⟨rfl, List.forall_mem_cons.mpr ⟨rfl, fun _ h => absurd h List.not_mem_nil⟩⟩⟩) (Nat.le_of_ble_eq_true rfl) (l0 := [some (adr G 532), some (.int x), some (.int d), none]) rfl (fun C hx hq => ?_)
  refine Ew.aload_n hx dX12_closure_0 rfl ?_
  refine Ew.iconst hx dX12_closure_1 k_iconst_0 ?_
  refine Ew.putI hx dX12_closure_2 pg_RX12_31 rfl ?_
  refine Ew.aload_n hx dX12_closure_5 rfl ?_
  refine Ew.iload_n hx dX12_closure_6 rfl ?_
  refine Ew.callV2 (y' := mX12_isRamp) hx dX12_closure_7 ml_RX12_86 cf_X12_isRamp cv_X12_isRamp (ct_X12_isRamp G _ hM.m0 hW x) rfl oc_19 rfl (by decide) (by decide) rfl (Nat.le_of_ble_eq_true rfl) ?_
  rintro _ V9 ⟨rfl, h9⟩; subst V9
  refine Ew.ifeq_b hx (tgt := 20) dX12_closure_10 rfl (fun h10 => ?_) (fun h10 => ?_)
  · have ec : anClosure s x d = -100001 := cif_f (fun q => h10 q.1)
    refine Ew.ldc hx dX12_closure_20 kn_RX12_69 ?_
    refine Ew.iret hx hq dX12_closure_22 rfl ?_
    exact QR.ri ⟨by rw [ec], rfl⟩
  · refine Ew.iload_n hx dX12_closure_13 rfl ?_
    refine Ew.callS (y' := mX12_isDraught) hx dX12_closure_14 ml_RX12_93 cf_X12_isDraught cs_X12_isDraught (ct_X12_isDraught G _ d) rfl (by decide) (by decide) rfl (Nat.le_of_ble_eq_true rfl) ?_
    rintro _ V9 ⟨rfl, h9⟩; subst V9
    refine Ew.ifne_b hx (tgt := 23) dX12_closure_17 rfl (fun h17 => ?_) (fun h17 => ?_)
    · have ht := hW.t
      have hnr := hW.nr
      obtain ⟨r, hxr, hr⟩ := hW.rix h10
      have hr4 : r < 4 := by omega
      have hxn : nt x = r := by rw [hxr, nt_nI (by omega)]
      have ok : anClosure s x d = _ := cif_t ⟨h10, h17⟩
      rw [hxn] at ok
      refine Ew.aload_n hx dX12_closure_23 rfl ?_
      refine Ew.callV2 (y' := mX12_foresee) hx dX12_closure_24 ml_RX12_59 cf_X12_foresee cv_X12_foresee (ct_X12_foresee G _ hM.m0 hW) rfl oc_19 rfl (by decide) (by decide) rfl (Nat.le_of_ble_eq_true rfl) ?_
      rintro _ V9 ⟨rfl, h9⟩; subst V9
      refine Ew.aload_n hx dX12_closure_27 rfl ?_
      refine Ew.getR (533) hx dX12_closure_28 fg_RX12_7 rfl rfl ?_
      refine Ew.iconst hx dX12_closure_31 k_iconst_0 ?_
      refine Ew.iald (i := 0) hx dX12_closure_32 ag_20 rfl (rfl) (by decide) ?_
      rw [hM.m0.fV 182 0 (by decide), ht.1]
      refine Ew.istore_n hx dX12_closure_33 (by decide) rfl ?_
      rw [hxr]
      rw [hxr] at hq ok
      exact lp_X12_clos hM hW hr4 hx hq (182 - tN s) 0 (by omega) ok.symm
    · have ec : anClosure s x d = -100001 := cif_f (fun q => h17 q.2)
      refine Ew.ldc hx dX12_closure_20 kn_RX12_69 ?_
      refine Ew.iret hx hq dX12_closure_22 rfl ?_
      exact QR.ri ⟨by rw [ec], rfl⟩
set_option maxHeartbeats 4000000 in
set_option maxRecDepth 100000 in
theorem lp_X12_drf {G : GT} {C : CT} {V : Mm} {s : Sv} {B : Int} (hM : MR V s) (hW : WF s B) {r a b : Nat} (hr4 : r < 4) (hta : tN s ≤ a) (hab : a ≤ b) (hb : b ≤ 181) (hx : Cx G mX12_draughtFor 2 C) (hq : Cq G (QR V (gdI (lwF s a (b + 1 - tN s)) (rf s r 0))) C) : ∀ (n i : Nat), i + n = b + 1 - a → Ew G C (fV (mup V 532 0 0) s 182) 52 [some (adr G 532), some (.int (nI r)), some (.int (nI a)), some (.int (nI b)), some (.int (lL s a i)), some (.int (nI (a + i)))] [] := by
  intro n
  induction n with
  | zero =>
    intro i hi
    refine Ew.iload hx dX12_draughtFor_52 rfl ?_
    refine Ew.iload_n hx dX12_draughtFor_54 rfl ?_
    refine Ew.icmp_gt_t hx (tgt := 90) dX12_draughtFor_55 rfl (nI_lt (by omega) (by omega)) ?_
    refine Ew.iload hx dX12_draughtFor_90 rfl ?_
    refine Ew.aload_n hx dX12_draughtFor_92 rfl ?_
    refine Ew.iload_n hx dX12_draughtFor_93 rfl ?_
    refine Ew.iconst hx dX12_draughtFor_94 k_iconst_0 ?_
    refine Ew.callV2 (y' := mX12_ofRamp) hx dX12_draughtFor_95 ml_RX12_50 cf_X12_ofRamp cv_X12_ofRamp (ct_X12_ofRamp G _ hr4 (j := 0) (by decide)) rfl oc_19 rfl (by decide) (by decide) rfl (Nat.le_of_ble_eq_true rfl) ?_
    rintro _ V9 ⟨rfl, h9⟩; subst V9
    rw [hM.m0.fV 182 _ (by omega)]
    refine Ew.isub hx dX12_draughtFor_98 ?_
    refine Ew.callS (y' := mX12_draughtBy) hx dX12_draughtFor_99 ml_RX12_228 cf_X12_draughtBy cs_X12_draughtBy (ct_X12_draughtBy G _ (lL s a i) (s (37 + 3 * r + 0))) rfl (by decide) (by decide) rfl (Nat.le_of_ble_eq_true rfl) ?_
    rintro _ V9 ⟨rfl, h9⟩; subst V9
    refine Ew.iret hx hq dX12_draughtFor_102 rfl ?_
    rw [show lL s a i = lwF s a (b + 1 - tN s) from (if_neg (by omega)).trans (by rw [show a + i - tN s = b + 1 - tN s by omega])]
    exact QR.fv
  | succ n ih =>
    intro i hi
    have hl := lL_s hW hta i
    refine Ew.iload hx dX12_draughtFor_52 rfl ?_
    refine Ew.iload_n hx dX12_draughtFor_54 rfl ?_
    refine Ew.icmp_gt_f hx (tgt := 90) dX12_draughtFor_55 rfl (nI_nlt (by omega) (by omega)) ?_
    refine Ew.aload_n hx dX12_draughtFor_58 rfl ?_
    refine Ew.getR (536) hx dX12_draughtFor_59 fg_RX12_19 rfl rfl ?_
    refine Ew.iload hx dX12_draughtFor_62 rfl ?_
    refine Ew.iald (i := a + i) hx dX12_draughtFor_64 ag_22 rfl (rfl) (by omega) ?_
    rw [fV_at _ s (by omega)]
    refine Ew.iload hx dX12_draughtFor_65 rfl ?_
    refine Ew.icmp_ge hx (tgt := 80) dX12_draughtFor_67 rfl (fun h67 => ?_) (fun h67 => ?_)
    · replace hl := hl.trans (if_neg (by rw [il]; rw [ie] at h67; omega))
      refine Ew.iload hx dX12_draughtFor_80 rfl ?_
      rw [← hl]
      refine Ew.istore hx dX12_draughtFor_82 (by decide) rfl ?_
      refine Ew.iinc hx dX12_draughtFor_84 rfl (k_iinc_1 _) (by decide) rfl ?_
      refine Ew.goto hx (tgt := 52) dX12_draughtFor_87 rfl ?_
      have hl := lL_s hW hta i
      rw [nI_1]
      exact ih (i + 1) (by omega)
    · replace hl := hl.trans (if_pos (by rw [il]; rw [ie] at h67; omega))
      refine Ew.aload_n hx dX12_draughtFor_70 rfl ?_
      refine Ew.getR (536) hx dX12_draughtFor_71 fg_RX12_19 rfl rfl ?_
      refine Ew.iload hx dX12_draughtFor_74 rfl ?_
      refine Ew.iald (i := a + i) hx dX12_draughtFor_76 ag_22 rfl (rfl) (by omega) ?_
      rw [fV_at _ s (by omega)]
      refine Ew.goto hx (tgt := 82) dX12_draughtFor_77 rfl ?_
      rw [← hl]
      refine Ew.istore hx dX12_draughtFor_82 (by decide) rfl ?_
      refine Ew.iinc hx dX12_draughtFor_84 rfl (k_iinc_1 _) (by decide) rfl ?_
      refine Ew.goto hx (tgt := 52) dX12_draughtFor_87 rfl ?_
      have hl := lL_s hW hta i
      rw [nI_1]
      exact ih (i + 1) (by omega)
set_option maxHeartbeats 4000000 in
set_option maxRecDepth 100000 in
theorem ct_X12_draughtFor (G : GT) (V : Mm) {s : Sv} {B : Int} (hM : MR V s) (hW : WF s B) (x a b : Int32) : Ct G mX12_draughtFor 2 [adr G 532, .int x, .int a, .int b] (V) (QR V (anDraught s x a b)) := by
  refine Ct.of cf_X12_draughtFor (List.forall_mem_cons.mpr ⟨rfl, List.forall_mem_cons.mpr ⟨rfl, List.forall_mem_cons.mpr ⟨rfl, List.forall_mem_cons.mpr ⟨rfl, fun _ h => absurd h List.not_mem_nil⟩⟩⟩⟩) (Nat.le_of_ble_eq_true rfl) (l0 := [some (adr G 532), some (.int x), some (.int a), some (.int b), none, none]) rfl (fun C hx hq => ?_)
  refine Ew.aload_n hx dX12_draughtFor_0 rfl ?_
  refine Ew.iconst hx dX12_draughtFor_1 k_iconst_0 ?_
  refine Ew.putI hx dX12_draughtFor_2 pg_RX12_31 rfl ?_
  refine Ew.aload_n hx dX12_draughtFor_5 rfl ?_
  refine Ew.iload_n hx dX12_draughtFor_6 rfl ?_
  refine Ew.callV2 (y' := mX12_isRamp) hx dX12_draughtFor_7 ml_RX12_86 cf_X12_isRamp cv_X12_isRamp (ct_X12_isRamp G _ hM.m0 hW x) rfl oc_19 rfl (by decide) (by decide) rfl (Nat.le_of_ble_eq_true rfl) ?_
  rintro _ V9 ⟨rfl, h9⟩; subst V9
  refine Ew.ifeq_b hx (tgt := 21) dX12_draughtFor_10 rfl (fun h10 => ?_) (fun h10 => ?_)
  · have ec : anDraught s x a b = -100001 := cif_f (fun q => h10 q.1)
    refine Ew.ldc hx dX12_draughtFor_21 kn_RX12_69 ?_
    refine Ew.iret hx hq dX12_draughtFor_23 rfl ?_
    exact QR.ri ⟨by rw [ec], rfl⟩
  · refine Ew.iload_n hx dX12_draughtFor_13 rfl ?_
    refine Ew.iload_n hx dX12_draughtFor_14 rfl ?_
    refine Ew.callS (y' := mX12_areDays) hx dX12_draughtFor_15 ml_RX12_42 cf_X12_areDays cs_X12_areDays (ct_X12_areDays G _ a b) rfl (by decide) (by decide) rfl (Nat.le_of_ble_eq_true rfl) ?_
    rintro _ V9 ⟨rfl, h9⟩; subst V9
    refine Ew.ifne_b hx (tgt := 24) dX12_draughtFor_18 rfl (fun h18 => ?_) (fun h18 => ?_)
    · have ht := hW.t
      have hnr := hW.nr
      have ok : anDraught s x a b = _ := cif_t ⟨h10, h18⟩
      obtain ⟨r, hxr, hr⟩ := hW.rix h10
      have hr4 : r < 4 := by omega
      have hxn : nt x = r := by rw [hxr, nt_nI (by omega)]
      rw [hxn] at ok
      have q1 := h18.1
      have q2 := h18.2
      rw [ie, ie, tl_0, tl_181] at q1
      rw [ie, ie, tl_181] at q2
      have ea : a = nI (nt a) := ofNI q1.1
      have eb : b = nI (nt b) := ofNI (by omega)
      have hab : nt a ≤ nt b ∧ nt b ≤ 181 := by unfold nt; omega
      refine Ew.iload_n hx dX12_draughtFor_24 rfl ?_
      refine Ew.aload_n hx dX12_draughtFor_25 rfl ?_
      refine Ew.getR (533) hx dX12_draughtFor_26 fg_RX12_7 rfl rfl ?_
      refine Ew.iconst hx dX12_draughtFor_29 k_iconst_0 ?_
      refine Ew.iald (i := 0) hx dX12_draughtFor_30 ag_20 rfl (rfl) (by decide) ?_
      rw [hM.m0 0 (by decide)]
      refine Ew.icmp_ge hx (tgt := 37) dX12_draughtFor_31 rfl (fun h31 => ?_) (fun h31 => ?_)
      · have ec : anDraught s x a b = _ := ok.trans (cif_t h31)
        have hta : tN s ≤ nt a := by
          have q := h31
          rw [ie, ht.1, ea, tn (by omega), tn (by omega)] at q
          omega
        refine Ew.aload_n hx dX12_draughtFor_37 rfl ?_
        refine Ew.callV2 (y' := mX12_foresee) hx dX12_draughtFor_38 ml_RX12_59 cf_X12_foresee cv_X12_foresee (ct_X12_foresee G _ hM.m0 hW) rfl oc_19 rfl (by decide) (by decide) rfl (Nat.le_of_ble_eq_true rfl) ?_
        rintro _ V9 ⟨rfl, h9⟩; subst V9
        refine Ew.aload_n hx dX12_draughtFor_41 rfl ?_
        refine Ew.getR (536) hx dX12_draughtFor_42 fg_RX12_19 rfl rfl ?_
        refine Ew.iload_n hx dX12_draughtFor_45 rfl ?_
        refine Ew.iald (i := nt a) hx dX12_draughtFor_46 ag_22 rfl (ea) (by omega) ?_
        rw [fV_at _ s (by omega)]
        refine Ew.istore hx dX12_draughtFor_47 (by decide) rfl ?_
        refine Ew.iload_n hx dX12_draughtFor_49 rfl ?_
        refine Ew.istore hx dX12_draughtFor_50 (by decide) rfl ?_
        rw [ec] at hq
        rw [show Value.int x = Value.int (nI r) from congrArg Value.int hxr, show Value.int a = Value.int (nI (nt a)) from congrArg Value.int ea, show Value.int b = Value.int (nI (nt b)) from congrArg Value.int eb]
        exact lp_X12_drf hM hW hr4 hta hab.1 hab.2 hx hq (nt b + 1 - nt a) 0 (by omega)
      · have ec : anDraught s x a b = -100002 := ok.trans (cif_f h31)
        refine Ew.ldc hx dX12_draughtFor_34 kn_RX12_100 ?_
        refine Ew.iret hx hq dX12_draughtFor_36 rfl ?_
        exact QR.ri ⟨by rw [ec], rfl⟩
    · have ec : anDraught s x a b = -100001 := cif_f (fun q => h18 q.2)
      refine Ew.ldc hx dX12_draughtFor_21 kn_RX12_69 ?_
      refine Ew.iret hx hq dX12_draughtFor_23 rfl ?_
      exact QR.ri ⟨by rw [ec], rfl⟩
set_option maxHeartbeats 4000000 in
set_option maxRecDepth 100000 in
theorem lp_X12_best {G : GT} {C : CT} {V : Mm} {s : Sv} {B : Int} (hM : MR V s) (hW : WF s B) {a b : Nat} {d : Int32} (hta : tN s ≤ a) (hab : a ≤ b) (hb : b ≤ 181) (hx : Cx G mX12_bestRamp 4 C) (hq : Cq G (QR V (bV (bO s a b d (nrN s)))) C) : ∀ (n i : Nat), i + n = nrN s → ∀ (w : Int32) (W : Mm), w = bV (bO s a b d i) → (∀ k, k ≠ 536 → W k = mup V 532 0 0 k) → Ew G C (W) 43 [some (adr G 532), some (.int (nI a)), some (.int (nI b)), some (.int d), some (.int w), some (.int (nI i)), none] [] := by
  intro n
  induction n with
  | zero =>
    intro i hi w W hs hF
    refine Ew.iload hx dX12_bestRamp_43 rfl ?_
    refine Ew.aload_n hx dX12_bestRamp_45 rfl ?_
    refine Ew.getR (533) hx dX12_bestRamp_46 fg_RX12_7 rfl rfl ?_
    refine Ew.iconst hx dX12_bestRamp_49 k_iconst_2 ?_
    refine Ew.iald (i := 2) hx dX12_bestRamp_50 ag_20 rfl (rfl) (by decide) ?_
    have hnr := hW.nr
    have hMW := hM.m0.fr (hF 533 (by decide))
    rw [hMW 2 (by decide), hnr.1]
    refine Ew.icmp_ge_t hx (tgt := 118) dX12_bestRamp_51 rfl (nI_le (by omega) (by omega)) ?_
    refine Ew.iload hx dX12_bestRamp_118 rfl ?_
    refine Ew.iret hx hq dX12_bestRamp_120 rfl ?_
    rw [show i = nrN s by omega] at hs
    rw [← hs]
    exact ⟨rfl, fun k h1 h2 => by rw [hF k h2, mup_ne _ _ _ h1], fun j hj => by rw [hF 532 (by decide), mup_oth _ _ _ _ (Or.inr hj)]⟩
  | succ n ih =>
    intro i hi w W hs hF
    refine Ew.iload hx dX12_bestRamp_43 rfl ?_
    refine Ew.aload_n hx dX12_bestRamp_45 rfl ?_
    refine Ew.getR (533) hx dX12_bestRamp_46 fg_RX12_7 rfl rfl ?_
    refine Ew.iconst hx dX12_bestRamp_49 k_iconst_2 ?_
    refine Ew.iald (i := 2) hx dX12_bestRamp_50 ag_20 rfl (rfl) (by decide) ?_
    have hnr := hW.nr
    have hMW := hM.m0.fr (hF 533 (by decide))
    rw [hMW 2 (by decide), hnr.1]
    refine Ew.icmp_ge_f hx (tgt := 118) dX12_bestRamp_51 rfl (nI_ge (by omega) (by omega)) ?_
    have hft : fitQ s (-1) i a b d ↔ fitP s i a b d := fitQ_e (fun p hp _ e => nI_m1 (by have := hW.np.2; omega) e)
    refine Ew.iload hx dX12_bestRamp_54 rfl ?_
    refine Ew.ldc hx dX12_bestRamp_56 kn_RX12_200 ?_
    refine Ew.icmp_eq hx (tgt := 78) dX12_bestRamp_58 rfl (fun h58 => ?_) (fun h58 => ?_)
    · have hless : ∀ r, bO s a b d i = some r → rf s i 2 < rf s r 2 := bO_none (hs ▸ h58) (by omega)
      try rw [show Value.int (nI r) = Value.int w from congrArg Value.int hwr.symm]
      refine Ew.iconst hx dX12_bestRamp_78 k_iconst_1 ?_
      refine Ew.goto hx (tgt := 83) dX12_bestRamp_79 rfl ?_
      refine Ew.istore hx dX12_bestRamp_83 (by decide) rfl ?_
      refine Ew.iload hx dX12_bestRamp_85 rfl ?_
      refine Ew.if_eq_f hx (tgt := 108) dX12_bestRamp_87 rfl (by decide) ?_
      refine Ew.aload_n hx dX12_bestRamp_90 rfl ?_
      refine Ew.iconst hx dX12_bestRamp_91 k_iconst_m1 ?_
      refine Ew.iload hx dX12_bestRamp_92 rfl ?_
      refine Ew.iload_n hx dX12_bestRamp_94 rfl ?_
      refine Ew.iload_n hx dX12_bestRamp_95 rfl ?_
      refine Ew.iload_n hx dX12_bestRamp_96 rfl ?_
      refine Ew.callV2 (y' := mX12_fits) hx dX12_bestRamp_97 ml_RX12_96 cf_X12_fits cv_X12_fits (ct_X12_fits G W hMW hW (-1) d (r := i) (by omega) hta hab hb) rfl oc_19 rfl (by decide) (by decide) rfl (Nat.le_of_ble_eq_true rfl) ?_
      rintro _ V9 ⟨rfl, h9⟩; subst V9
      refine Ew.ifeq_b hx (tgt := 108) dX12_bestRamp_100 rfl (fun h100 => ?_) (fun h100 => ?_)
      · have hs2 : w = bV (bO s a b d (i + 1)) := hs.trans (congrArg bV (cif_f (fun q => h100 (hft.mpr q.2)))).symm
        refine Ew.iload hx dX12_bestRamp_108 rfl ?_
        refine Ew.istore hx dX12_bestRamp_110 (by decide) rfl ?_
        refine Ew.iinc hx dX12_bestRamp_112 rfl (k_iinc_1 _) (by decide) rfl ?_
        refine Ew.goto hx (tgt := 43) dX12_bestRamp_115 rfl ?_
        rw [nI_1]
        exact Ew.drop 6 (ih (i + 1) (by omega) _ _ hs2 (fun k hk => by rw [fV_o _ _ _ hk]; exact hF k hk))
      · have hs2 : nI i = bV (bO s a b d (i + 1)) := (congrArg bV (show bO s a b d (i + 1) = some i from cif_t ⟨hless, hft.mp h100⟩)).symm
        refine Ew.iload hx dX12_bestRamp_103 rfl ?_
        refine Ew.goto hx (tgt := 110) dX12_bestRamp_105 rfl ?_
        refine Ew.istore hx dX12_bestRamp_110 (by decide) rfl ?_
        refine Ew.iinc hx dX12_bestRamp_112 rfl (k_iinc_1 _) (by decide) rfl ?_
        refine Ew.goto hx (tgt := 43) dX12_bestRamp_115 rfl ?_
        rw [nI_1]
        exact Ew.drop 6 (ih (i + 1) (by omega) _ _ hs2 (fun k hk => by rw [fV_o _ _ _ hk]; exact hF k hk))
    · obtain ⟨r, hbr, hri⟩ := bO_some (s := s) (a := a) (b := b) (n := i) (d := d) (hs ▸ h58)
      have hwr : w = nI r := by rw [hs, hbr]; rfl
      refine Ew.aload_n hx dX12_bestRamp_61 rfl ?_
      refine Ew.iload hx dX12_bestRamp_62 rfl ?_
      refine Ew.iconst hx dX12_bestRamp_64 k_iconst_2 ?_
      refine Ew.callV2 (y' := mX12_ofRamp) hx dX12_bestRamp_65 ml_RX12_50 cf_X12_ofRamp cv_X12_ofRamp (ct_X12_ofRamp G W (r := i) (by omega) (j := 2) (by decide)) rfl oc_19 rfl (by decide) (by decide) rfl (Nat.le_of_ble_eq_true rfl) ?_
      rintro _ V9 ⟨rfl, h9⟩; subst V9
      rw [hMW _ (by omega)]
      refine Ew.aload_n hx dX12_bestRamp_68 rfl ?_
      refine Ew.iload hx dX12_bestRamp_69 rfl ?_
      refine Ew.iconst hx dX12_bestRamp_71 k_iconst_2 ?_
      rw [show Value.int w = Value.int (nI r) from congrArg Value.int hwr]
      refine Ew.callV2 (y' := mX12_ofRamp) hx dX12_bestRamp_72 ml_RX12_50 cf_X12_ofRamp cv_X12_ofRamp (ct_X12_ofRamp G W (r := r) (by omega) (j := 2) (by decide)) rfl oc_19 rfl (by decide) (by decide) rfl (Nat.le_of_ble_eq_true rfl) ?_
      rintro _ V9 ⟨rfl, h9⟩; subst V9
      rw [hMW _ (by omega)]
      refine Ew.icmp_ge hx (tgt := 82) dX12_bestRamp_75 rfl (fun h75 => ?_) (fun h75 => ?_)
      · have hnl : ¬ ∀ r, bO s a b d i = some r → rf s i 2 < rf s r 2 := fun q => by
          have q2 := q r hbr
          unfold rf at q2
          rw [il] at q2
          rw [ie] at h75
          omega
        try rw [show Value.int (nI r) = Value.int w from congrArg Value.int hwr.symm]
        refine Ew.iconst hx dX12_bestRamp_82 k_iconst_0 ?_
        refine Ew.istore hx dX12_bestRamp_83 (by decide) rfl ?_
        refine Ew.iload hx dX12_bestRamp_85 rfl ?_
        refine Ew.if_eq_t hx (tgt := 108) dX12_bestRamp_87 rfl (rfl) ?_
        refine Ew.iload hx dX12_bestRamp_108 rfl ?_
        refine Ew.istore hx dX12_bestRamp_110 (by decide) rfl ?_
        refine Ew.iinc hx dX12_bestRamp_112 rfl (k_iinc_1 _) (by decide) rfl ?_
        refine Ew.goto hx (tgt := 43) dX12_bestRamp_115 rfl ?_
        have hs2 : w = bV (bO s a b d (i + 1)) := hs.trans (congrArg bV (cif_f (fun q => hnl q.1))).symm
        rw [nI_1]
        exact Ew.drop 6 (ih (i + 1) (by omega) _ _ hs2 hF)
      · have hless : ∀ r, bO s a b d i = some r → rf s i 2 < rf s r 2 := fun r2 q => by
          rw [hbr] at q
          cases q
          unfold rf
          rw [il]
          rw [ie] at h75
          omega
        try rw [show Value.int (nI r) = Value.int w from congrArg Value.int hwr.symm]
        refine Ew.iconst hx dX12_bestRamp_78 k_iconst_1 ?_
        refine Ew.goto hx (tgt := 83) dX12_bestRamp_79 rfl ?_
        refine Ew.istore hx dX12_bestRamp_83 (by decide) rfl ?_
        refine Ew.iload hx dX12_bestRamp_85 rfl ?_
        refine Ew.if_eq_f hx (tgt := 108) dX12_bestRamp_87 rfl (by decide) ?_
        refine Ew.aload_n hx dX12_bestRamp_90 rfl ?_
        refine Ew.iconst hx dX12_bestRamp_91 k_iconst_m1 ?_
        refine Ew.iload hx dX12_bestRamp_92 rfl ?_
        refine Ew.iload_n hx dX12_bestRamp_94 rfl ?_
        refine Ew.iload_n hx dX12_bestRamp_95 rfl ?_
        refine Ew.iload_n hx dX12_bestRamp_96 rfl ?_
        refine Ew.callV2 (y' := mX12_fits) hx dX12_bestRamp_97 ml_RX12_96 cf_X12_fits cv_X12_fits (ct_X12_fits G W hMW hW (-1) d (r := i) (by omega) hta hab hb) rfl oc_19 rfl (by decide) (by decide) rfl (Nat.le_of_ble_eq_true rfl) ?_
        rintro _ V9 ⟨rfl, h9⟩; subst V9
        refine Ew.ifeq_b hx (tgt := 108) dX12_bestRamp_100 rfl (fun h100 => ?_) (fun h100 => ?_)
        · have hs2 : w = bV (bO s a b d (i + 1)) := hs.trans (congrArg bV (cif_f (fun q => h100 (hft.mpr q.2)))).symm
          refine Ew.iload hx dX12_bestRamp_108 rfl ?_
          refine Ew.istore hx dX12_bestRamp_110 (by decide) rfl ?_
          refine Ew.iinc hx dX12_bestRamp_112 rfl (k_iinc_1 _) (by decide) rfl ?_
          refine Ew.goto hx (tgt := 43) dX12_bestRamp_115 rfl ?_
          rw [nI_1]
          exact Ew.drop 6 (ih (i + 1) (by omega) _ _ hs2 (fun k hk => by rw [fV_o _ _ _ hk]; exact hF k hk))
        · have hs2 : nI i = bV (bO s a b d (i + 1)) := (congrArg bV (show bO s a b d (i + 1) = some i from cif_t ⟨hless, hft.mp h100⟩)).symm
          refine Ew.iload hx dX12_bestRamp_103 rfl ?_
          refine Ew.goto hx (tgt := 110) dX12_bestRamp_105 rfl ?_
          refine Ew.istore hx dX12_bestRamp_110 (by decide) rfl ?_
          refine Ew.iinc hx dX12_bestRamp_112 rfl (k_iinc_1 _) (by decide) rfl ?_
          refine Ew.goto hx (tgt := 43) dX12_bestRamp_115 rfl ?_
          rw [nI_1]
          exact Ew.drop 6 (ih (i + 1) (by omega) _ _ hs2 (fun k hk => by rw [fV_o _ _ _ hk]; exact hF k hk))
set_option maxHeartbeats 4000000 in
set_option maxRecDepth 100000 in
theorem ct_X12_bestRamp (G : GT) (V : Mm) {s : Sv} {B : Int} (hM : MR V s) (hW : WF s B) (a b d : Int32) : Ct G mX12_bestRamp 4 [adr G 532, .int a, .int b, .int d] (V) (QR V (anBest s a b d)) := by
  refine Ct.of cf_X12_bestRamp (List.forall_mem_cons.mpr ⟨rfl, List.forall_mem_cons.mpr ⟨rfl, List.forall_mem_cons.mpr ⟨rfl, List.forall_mem_cons.mpr ⟨rfl, fun _ h => absurd h List.not_mem_nil⟩⟩⟩⟩) (Nat.le_of_ble_eq_true rfl) (l0 := [some (adr G 532), some (.int a), some (.int b), some (.int d), none, none, none]) rfl (fun C hx hq => ?_)
  refine Ew.aload_n hx dX12_bestRamp_0 rfl ?_
  refine Ew.iconst hx dX12_bestRamp_1 k_iconst_0 ?_
  refine Ew.putI hx dX12_bestRamp_2 pg_RX12_31 rfl ?_
  refine Ew.iload_n hx dX12_bestRamp_5 rfl ?_
  refine Ew.iload_n hx dX12_bestRamp_6 rfl ?_
  refine Ew.callS (y' := mX12_isShort) hx dX12_bestRamp_7 ml_RX12_90 cf_X12_isShort cs_X12_isShort (ct_X12_isShort G _ a b) rfl (by decide) (by decide) rfl (Nat.le_of_ble_eq_true rfl) ?_
  rintro _ V9 ⟨rfl, h9⟩; subst V9
  refine Ew.ifeq_b hx (tgt := 20) dX12_bestRamp_10 rfl (fun h10 => ?_) (fun h10 => ?_)
  · have ec : anBest s a b d = -100001 := cif_f (fun q => h10 q.1)
    refine Ew.ldc hx dX12_bestRamp_20 kn_RX12_69 ?_
    refine Ew.iret hx hq dX12_bestRamp_22 rfl ?_
    exact QR.ri ⟨by rw [ec], rfl⟩
  · refine Ew.iload_n hx dX12_bestRamp_13 rfl ?_
    refine Ew.callS (y' := mX12_isDraught) hx dX12_bestRamp_14 ml_RX12_93 cf_X12_isDraught cs_X12_isDraught (ct_X12_isDraught G _ d) rfl (by decide) (by decide) rfl (Nat.le_of_ble_eq_true rfl) ?_
    rintro _ V9 ⟨rfl, h9⟩; subst V9
    refine Ew.ifne_b hx (tgt := 23) dX12_bestRamp_17 rfl (fun h17 => ?_) (fun h17 => ?_)
    · have ht := hW.t
      have ok : anBest s a b d = _ := cif_t ⟨h10, h17⟩
      obtain ⟨ea, eb, hab, hb⟩ := span_n h10
      refine Ew.iload_n hx dX12_bestRamp_23 rfl ?_
      refine Ew.aload_n hx dX12_bestRamp_24 rfl ?_
      refine Ew.getR (533) hx dX12_bestRamp_25 fg_RX12_7 rfl rfl ?_
      refine Ew.iconst hx dX12_bestRamp_28 k_iconst_0 ?_
      refine Ew.iald (i := 0) hx dX12_bestRamp_29 ag_20 rfl (rfl) (by decide) ?_
      rw [hM.m0 0 (by decide)]
      refine Ew.icmp_ge hx (tgt := 36) dX12_bestRamp_30 rfl (fun h30 => ?_) (fun h30 => ?_)
      · have ec : anBest s a b d = _ := ok.trans (cif_t h30)
        have hta : tN s ≤ nt a := by
          have q := h30
          rw [ie, ht.1, ea, tn (by omega), tn (by omega)] at q
          omega
        refine Ew.ldc hx dX12_bestRamp_36 kn_RX12_200 ?_
        refine Ew.istore hx dX12_bestRamp_38 (by decide) rfl ?_
        refine Ew.iconst hx dX12_bestRamp_40 k_iconst_0 ?_
        refine Ew.istore hx dX12_bestRamp_41 (by decide) rfl ?_
        rw [ec] at hq
        rw [show Value.int a = Value.int (nI (nt a)) from congrArg Value.int ea, show Value.int b = Value.int (nI (nt b)) from congrArg Value.int eb]
        exact lp_X12_best hM hW hta hab hb hx hq (nrN s) 0 (by omega) _ _ rfl (fun _ _ => rfl)
      · have ec : anBest s a b d = -100002 := ok.trans (cif_f h30)
        refine Ew.ldc hx dX12_bestRamp_33 kn_RX12_100 ?_
        refine Ew.iret hx hq dX12_bestRamp_35 rfl ?_
        exact QR.ri ⟨by rw [ec], rfl⟩
    · have ec : anBest s a b d = -100001 := cif_f (fun q => h17 q.2)
      refine Ew.ldc hx dX12_bestRamp_20 kn_RX12_69 ?_
      refine Ew.iret hx hq dX12_bestRamp_22 rfl ?_
      exact QR.ri ⟨by rw [ec], rfl⟩
set_option maxHeartbeats 4000000 in
set_option maxRecDepth 100000 in
theorem lp_X12_exp {G : GT} {C : CT} {V : Mm} {s : Sv} {B : Int} (hM : MR V s) (hW : WF s B) {p : Nat} {w A : Int32} (hp : p < npN s) (hA0 : w = 0 → A = nI (clN s p (laN s p + 1))) (hA1 : ¬ w = 0 → A = pf s p 7 + nI (clN s p (laN s p + 1)) * pf s p 4) (hx : Cx G mX12_expected 2 C) (hq : Cq G (QR V A) C) : ∀ (n i : Nat), i + n = laN s p + 1 - fiN s p → Ew G C (fV (mup V 532 0 0) s 182) 39 [some (adr G 532), some (.int (nI p)), some (.int w), some (.int (nI (clN s p (fiN s p + i)))), some (.int (nI (fiN s p + i)))] [] := by
  intro n
  induction n with
  | zero =>
    intro i hi
    have hMf := hM.m0.fV 182
    have hnp := hW.np
    have hp12 : p < 12 := by omega
    have hpl := hW.pl hp
    refine Ew.iload hx dX12_expected_39 rfl ?_
    refine Ew.aload_n hx dX12_expected_41 rfl ?_
    refine Ew.iload_n hx dX12_expected_42 rfl ?_
    refine Ew.iconst hx dX12_expected_43 k_iconst_2 ?_
    refine Ew.callV2 (y' := mX12_of) hx dX12_expected_44 ml_RX12_53 cf_X12_of cv_X12_of (ct_X12_of G _ hp12 (j := 2) (by decide)) rfl oc_19 rfl (by decide) (by decide) rfl (Nat.le_of_ble_eq_true rfl) ?_
    rintro _ V9 ⟨rfl, h9⟩; subst V9
    rw [hMf _ (by omega), show s (49 + 12 * p + 2) = nI (laN s p) from hpl.2.1]
    refine Ew.icmp_gt_t hx (tgt := 100) dX12_expected_47 rfl (nI_lt (by omega) (by omega)) ?_
    refine Ew.iload_n hx dX12_expected_100 rfl ?_
    rw [show fiN s p + i = laN s p + 1 by omega]
    refine Ew.if_ne hx (tgt := 108) dX12_expected_101 rfl (fun h101 => ?_) (fun h101 => ?_)
    · refine Ew.aload_n hx dX12_expected_108 rfl ?_
      refine Ew.iload_n hx dX12_expected_109 rfl ?_
      refine Ew.bipush hx dX12_expected_110 k_bipush_7 ?_
      refine Ew.callV2 (y' := mX12_of) hx dX12_expected_112 ml_RX12_53 cf_X12_of cv_X12_of (ct_X12_of G _ hp12 (j := 7) (by decide)) rfl oc_19 rfl (by decide) (by decide) rfl (Nat.le_of_ble_eq_true rfl) ?_
      rintro _ V9 ⟨rfl, h9⟩; subst V9
      rw [hMf _ (by omega)]
      refine Ew.iload_n hx dX12_expected_115 rfl ?_
      refine Ew.aload_n hx dX12_expected_116 rfl ?_
      refine Ew.iload_n hx dX12_expected_117 rfl ?_
      refine Ew.iconst hx dX12_expected_118 k_iconst_4 ?_
      refine Ew.callV2 (y' := mX12_of) hx dX12_expected_119 ml_RX12_53 cf_X12_of cv_X12_of (ct_X12_of G _ hp12 (j := 4) (by decide)) rfl oc_19 rfl (by decide) (by decide) rfl (Nat.le_of_ble_eq_true rfl) ?_
      rintro _ V9 ⟨rfl, h9⟩; subst V9
      rw [hMf _ (by omega)]
      refine Ew.imul hx dX12_expected_122 ?_
      refine Ew.iadd hx dX12_expected_123 ?_
      refine Ew.iret hx hq dX12_expected_124 rfl ?_
      first
        | (rw [← hA0 h101]; exact QR.fv)
        | (rw [hA1 h101]; exact QR.fv)
    · refine Ew.iload_n hx dX12_expected_104 rfl ?_
      refine Ew.goto hx (tgt := 124) dX12_expected_105 rfl ?_
      refine Ew.iret hx hq dX12_expected_124 rfl ?_
      first
        | (rw [← hA0 h101]; exact QR.fv)
        | (rw [hA1 h101]; exact QR.fv)
  | succ n ih =>
    intro i hi
    have hMf := hM.m0.fV 182
    have hnp := hW.np
    have hp12 : p < 12 := by omega
    have hpl := hW.pl hp
    have ht := hW.t
    refine Ew.iload hx dX12_expected_39 rfl ?_
    refine Ew.aload_n hx dX12_expected_41 rfl ?_
    refine Ew.iload_n hx dX12_expected_42 rfl ?_
    refine Ew.iconst hx dX12_expected_43 k_iconst_2 ?_
    refine Ew.callV2 (y' := mX12_of) hx dX12_expected_44 ml_RX12_53 cf_X12_of cv_X12_of (ct_X12_of G _ hp12 (j := 2) (by decide)) rfl oc_19 rfl (by decide) (by decide) rfl (Nat.le_of_ble_eq_true rfl) ?_
    rintro _ V9 ⟨rfl, h9⟩; subst V9
    rw [hMf _ (by omega), show s (49 + 12 * p + 2) = nI (laN s p) from hpl.2.1]
    refine Ew.icmp_gt_f hx (tgt := 100) dX12_expected_47 rfl (nI_nlt (by omega) (by omega)) ?_
    refine Ew.iload_n hx dX12_expected_50 rfl ?_
    refine Ew.aload_n hx dX12_expected_51 rfl ?_
    refine Ew.iload_n hx dX12_expected_52 rfl ?_
    refine Ew.iload hx dX12_expected_53 rfl ?_
    refine Ew.callV2 (y' := mX12_comes) hx dX12_expected_55 ml_RX12_56 cf_X12_comes cv_X12_comes (ct_X12_comes G _ hMf hp12 (fiN s p + i)) rfl oc_19 rfl (by decide) (by decide) rfl (Nat.le_of_ble_eq_true rfl) ?_
    rintro _ V9 ⟨rfl, h9⟩; subst V9
    refine Ew.ifeq_b hx (tgt := 91) dX12_expected_58 rfl (fun h58 => ?_) (fun h58 => ?_)
    · have hc : nI (clN s p (fiN s p + i)) + 0 = nI (clN s p (fiN s p + (i + 1))) := by
        rw [show fiN s p + (i + 1) = fiN s p + i + 1 by omega]
        unfold clN
        rw [cntN_f (P := fun D => cms s p D ∧ ¬ opn s (rrN s p) (pf s p 3) (FC s (D - tN s))) (fun z => h58 z.1)]
        exact Int32.add_zero _
      refine Ew.iconst hx dX12_expected_91 k_iconst_0 ?_
      refine Ew.iadd hx dX12_expected_92 ?_
      rw [hc]
      refine Ew.istore_n hx dX12_expected_93 (by decide) rfl ?_
      refine Ew.iinc hx dX12_expected_94 rfl (k_iinc_1 _) (by decide) rfl ?_
      refine Ew.goto hx (tgt := 39) dX12_expected_97 rfl ?_
      have hMf := hM.m0.fV 182
      have hnp := hW.np
      have hp12 : p < 12 := by omega
      have hpl := hW.pl hp
      have ht := hW.t
      rw [nI_1]
      exact ih (i + 1) (by omega)
    · have hti : tN s ≤ fiN s p + i := by
        have q := h58.2.1
        rw [ht.1] at q
        rw [ie, tn (by omega), tn (by omega)] at q
        exact Int.ofNat_le.mp q
      refine Ew.aload_n hx dX12_expected_61 rfl ?_
      refine Ew.aload_n hx dX12_expected_62 rfl ?_
      refine Ew.iload_n hx dX12_expected_63 rfl ?_
      refine Ew.iconst hx dX12_expected_64 k_iconst_0 ?_
      refine Ew.callV2 (y' := mX12_of) hx dX12_expected_65 ml_RX12_53 cf_X12_of cv_X12_of (ct_X12_of G _ hp12 (j := 0) (by decide)) rfl oc_19 rfl (by decide) (by decide) rfl (Nat.le_of_ble_eq_true rfl) ?_
      rintro _ V9 ⟨rfl, h9⟩; subst V9
      rw [hMf _ (by omega), show s (49 + 12 * p + 0) = nI (rrN s p) from hpl.2.2.2.2.1]
      refine Ew.aload_n hx dX12_expected_68 rfl ?_
      refine Ew.iload_n hx dX12_expected_69 rfl ?_
      refine Ew.iconst hx dX12_expected_70 k_iconst_3 ?_
      refine Ew.callV2 (y' := mX12_of) hx dX12_expected_71 ml_RX12_53 cf_X12_of cv_X12_of (ct_X12_of G _ hp12 (j := 3) (by decide)) rfl oc_19 rfl (by decide) (by decide) rfl (Nat.le_of_ble_eq_true rfl) ?_
      rintro _ V9 ⟨rfl, h9⟩; subst V9
      rw [hMf _ (by omega)]
      refine Ew.aload_n hx dX12_expected_74 rfl ?_
      refine Ew.getR (536) hx dX12_expected_75 fg_RX12_19 rfl rfl ?_
      refine Ew.iload hx dX12_expected_78 rfl ?_
      refine Ew.iald (i := fiN s p + i) hx dX12_expected_80 ag_22 rfl (rfl) (by omega) ?_
      rw [fV_at _ s (by omega)]
      refine Ew.callV2 (y' := mX12_isOpen) hx dX12_expected_81 ml_RX12_62 cf_X12_isOpen cv_X12_isOpen (ct_X12_isOpen G _ hMf (r := rrN s p) (by have := hW.nr.2; omega) _ _) rfl oc_19 rfl (by decide) (by decide) rfl (Nat.le_of_ble_eq_true rfl) ?_
      rintro _ V9 ⟨rfl, h9⟩; subst V9
      refine Ew.ifne_b hx (tgt := 91) dX12_expected_84 rfl (fun h84 => ?_) (fun h84 => ?_)
      · have hc : nI (clN s p (fiN s p + i)) + 0 = nI (clN s p (fiN s p + (i + 1))) := by
          rw [show fiN s p + (i + 1) = fiN s p + i + 1 by omega]
          unfold clN
          rw [cntN_f (P := fun D => cms s p D ∧ ¬ opn s (rrN s p) (pf s p 3) (FC s (D - tN s))) (fun z => z.2 h84)]
          exact Int32.add_zero _
        refine Ew.iconst hx dX12_expected_91 k_iconst_0 ?_
        refine Ew.iadd hx dX12_expected_92 ?_
        rw [hc]
        refine Ew.istore_n hx dX12_expected_93 (by decide) rfl ?_
        refine Ew.iinc hx dX12_expected_94 rfl (k_iinc_1 _) (by decide) rfl ?_
        refine Ew.goto hx (tgt := 39) dX12_expected_97 rfl ?_
        have hMf := hM.m0.fV 182
        have hnp := hW.np
        have hp12 : p < 12 := by omega
        have hpl := hW.pl hp
        have ht := hW.t
        rw [nI_1]
        exact ih (i + 1) (by omega)
      · have hc : nI (clN s p (fiN s p + i)) + 1 = nI (clN s p (fiN s p + (i + 1))) := by
          rw [show fiN s p + (i + 1) = fiN s p + i + 1 by omega]
          unfold clN
          rw [cntN_t (P := fun D => cms s p D ∧ ¬ opn s (rrN s p) (pf s p 3) (FC s (D - tN s))) (⟨h58, h84⟩), nI_succ]
        refine Ew.iconst hx dX12_expected_87 k_iconst_1 ?_
        refine Ew.goto hx (tgt := 92) dX12_expected_88 rfl ?_
        refine Ew.iadd hx dX12_expected_92 ?_
        rw [hc]
        refine Ew.istore_n hx dX12_expected_93 (by decide) rfl ?_
        refine Ew.iinc hx dX12_expected_94 rfl (k_iinc_1 _) (by decide) rfl ?_
        refine Ew.goto hx (tgt := 39) dX12_expected_97 rfl ?_
        have hMf := hM.m0.fV 182
        have hnp := hW.np
        have hp12 : p < 12 := by omega
        have hpl := hW.pl hp
        have ht := hW.t
        rw [nI_1]
        exact ih (i + 1) (by omega)
set_option maxHeartbeats 4000000 in
set_option maxRecDepth 100000 in
theorem ct_X12_expected (G : GT) (V : Mm) {s : Sv} {B : Int} (hM : MR V s) (hW : WF s B) (x w : Int32) : Ct G mX12_expected 2 [adr G 532, .int x, .int w] (V) (QR V (anExpected s x w)) := by
  refine Ct.of cf_X12_expected (List.forall_mem_cons.mpr ⟨rfl, List.forall_mem_cons.mpr ⟨rfl, List.forall_mem_cons.mpr ⟨rfl, fun _ h => absurd h List.not_mem_nil⟩⟩⟩) (Nat.le_of_ble_eq_true rfl) (l0 := [some (adr G 532), some (.int x), some (.int w), none, none]) rfl (fun C hx hq => ?_)
  refine Ew.aload_n hx dX12_expected_0 rfl ?_
  refine Ew.iconst hx dX12_expected_1 k_iconst_0 ?_
  refine Ew.putI hx dX12_expected_2 pg_RX12_31 rfl ?_
  refine Ew.aload_n hx dX12_expected_5 rfl ?_
  refine Ew.iload_n hx dX12_expected_6 rfl ?_
  refine Ew.callV2 (y' := mX12_isPermit) hx dX12_expected_7 ml_RX12_112 cf_X12_isPermit cv_X12_isPermit (ct_X12_isPermit G _ hM.m0 hW x) rfl oc_19 rfl (by decide) (by decide) rfl (Nat.le_of_ble_eq_true rfl) ?_
  rintro _ V9 ⟨rfl, h9⟩; subst V9
  refine Ew.ifeq_b hx (tgt := 22) dX12_expected_10 rfl (fun h10 => ?_) (fun h10 => ?_)
  · have ec : anExpected s x w = -100001 := cif_f (fun q => h10 q.1)
    refine Ew.ldc hx dX12_expected_22 kn_RX12_69 ?_
    refine Ew.iret hx hq dX12_expected_24 rfl ?_
    exact QR.ri ⟨by rw [ec], rfl⟩
  · have hnp := hW.np
    obtain ⟨p, hxp, hp⟩ := hW.pix h10
    have hp12 : p < 12 := by omega
    have hxn : nt x = p := by rw [hxp, nt_nI (by omega)]
    refine Ew.iload_n hx dX12_expected_13 rfl ?_
    refine Ew.iconst hx dX12_expected_14 k_iconst_0 ?_
    refine Ew.iconst hx dX12_expected_15 k_iconst_1 ?_
    refine Ew.callS (y' := mX12_in) hx dX12_expected_16 ml_RX12_38 cf_X12_in cs_X12_in (ct_X12_in G _ _ _ _) rfl (by decide) (by decide) rfl (Nat.le_of_ble_eq_true rfl) ?_
    rintro _ V9 ⟨rfl, h9⟩; subst V9
    refine Ew.ifne_b hx (tgt := 25) dX12_expected_19 rfl (fun h19 => ?_) (fun h19 => ?_)
    · have ok : anExpected s x w = _ := cif_t ⟨h10, h19⟩
      unfold clI at ok
      rw [hxn] at ok
      refine Ew.aload_n hx dX12_expected_25 rfl ?_
      refine Ew.callV2 (y' := mX12_foresee) hx dX12_expected_26 ml_RX12_59 cf_X12_foresee cv_X12_foresee (ct_X12_foresee G _ hM.m0 hW) rfl oc_19 rfl (by decide) (by decide) rfl (Nat.le_of_ble_eq_true rfl) ?_
      rintro _ V9 ⟨rfl, h9⟩; subst V9
      refine Ew.iconst hx dX12_expected_29 k_iconst_0 ?_
      refine Ew.istore_n hx dX12_expected_30 (by decide) rfl ?_
      refine Ew.aload_n hx dX12_expected_31 rfl ?_
      refine Ew.iload_n hx dX12_expected_32 rfl ?_
      refine Ew.iconst hx dX12_expected_33 k_iconst_1 ?_
      rw [show Value.int x = Value.int (nI p) from congrArg Value.int hxp]
      refine Ew.callV2 (y' := mX12_of) hx dX12_expected_34 ml_RX12_53 cf_X12_of cv_X12_of (ct_X12_of G _ hp12 (j := 1) (by decide)) rfl oc_19 rfl (by decide) (by decide) rfl (Nat.le_of_ble_eq_true rfl) ?_
      rintro _ V9 ⟨rfl, h9⟩; subst V9
      rw [hM.m0.fV 182 _ (by omega), show s (49 + 12 * p + 1) = nI (fiN s p) from (hW.pl hp).1]
      refine Ew.istore hx dX12_expected_37 (by decide) rfl ?_
      have e0 : clN s p (fiN s p) = 0 := cntN_0 _ (fun j hj q => by
        have q2 := q.1.2.2.1
        have hpl := hW.pl hp
        rw [hpl.1, ie, tn (by omega), tn (by omega)] at q2
        omega)
      have q := lp_X12_exp hM hW hp (A := anExpected s x w) (w := w) (fun h => ok.trans (cif_t h)) (fun h => ok.trans (cif_f h)) hx hq (laN s p + 1 - fiN s p) 0 (by omega)
      rw [Nat.add_zero, e0] at q
      exact q
    · have ec : anExpected s x w = -100001 := cif_f (fun q => h19 q.2)
      refine Ew.ldc hx dX12_expected_22 kn_RX12_69 ?_
      refine Ew.iret hx hq dX12_expected_24 rfl ?_
      exact QR.ri ⟨by rw [ec], rfl⟩
