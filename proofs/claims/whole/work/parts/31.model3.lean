theorem MR.mup {V : Mm} {s : Sv} (h : MR V s) {k i : Nat} {x : Int32} (hk : k ≠ 533) : MR (mup V k i x) s := h.fr (mup_ne _ _ _ (Ne.symm hk))
theorem MR.put {V : Mm} {s : Sv} (h : MR V s) (i : Nat) (x : Int32) : MR (_root_.Jvm.Pilot.@@N@@.mup V 533 i x) (upd s i x) := fun m hm => by
  rw [mup_same]
  by_cases q : m = i
  · subst q; rw [upd_s, upd_s]
  · rw [upd_n _ _ q, upd_n _ _ q]; exact h m hm
theorem MS.fr {V V' : Mm} {z : Nat} {h : Nat → Sv} (hS : MS V z h) (e1 : V' 532 4 = V 532 4) (e2 : V' 535 = V 535) : MS V' z h := ⟨by rw [e1]; exact hS.1, hS.2.1, fun k hk m hm => by rw [e2]; exact hS.2.2 k hk m hm⟩
theorem ActM.mr {V V2 : Mm} {s t : Sv} {z : Nat} {h : Nat → Sv} {v : Option Value} (hA : ActM V t z h v V2) (hM : MR V s) : MR V2 s := hM.fr (hA.2.1 533 (by decide) (by decide))
def MAct (V : Mm) (s : Sv) (z : Nat) (h : Nat → Sv) (code ans : Int32) (s' : Sv) : PT := fun v V9 => (∀ k, k < 532 ∨ k = 534 ∨ 537 ≤ k → V9 k = V k) ∧ (∀ i, 5 ≤ i → V9 532 i = V 532 i) ∧ ((code < 0 ∧ v = some (.int code) ∧ MR V9 s ∧ MS V9 z h) ∨ (code = 0 ∧ v = some (.int ans) ∧ MR V9 s' ∧ MS V9 (szH z) (psh s h)))
theorem mact_ok {V V1 V2 V3 : Mm} {s s' : Sv} {z : Nat} {h : Nat → Sv} {v : Option Value} {code ans : Int32} (hF1 : ∀ k, k ≠ 536 → V1 k = mup V 532 0 0 k) (hA : ActM V1 s z h v V2) (hk : code = 0) (hM3 : MR V3 s') (hF3 : ∀ k, k ≠ 533 → k ≠ 536 → V3 k = V2 k) : MAct V s z h code ans s' (some (.int ans)) V3 := by
  refine ⟨fun k hk2 => ?_, fun i hi => ?_, Or.inr ⟨hk, rfl, hM3, hA.2.2.2.fr (by rw [hF3 532 (by decide) (by decide)]) (hF3 535 (by decide) (by decide))⟩⟩
  · rw [hF3 k (by omega) (by omega), hA.2.1 k (by omega) (by omega), hF1 k (by omega), mup_ne _ _ _ (by omega)]
  · rw [hF3 532 (by decide) (by decide), hA.2.2.1 i (by omega), hF1 532 (by decide), mup_oth _ _ _ _ (Or.inr (by omega))]
theorem mact_no {V V1 : Mm} {s s' : Sv} {z : Nat} {h : Nat → Sv} {code ans : Int32} (hF1 : ∀ k, k ≠ 536 → V1 k = mup V 532 0 0 k) (hM : MR V s) (hS : MS V z h) (hk : code < 0) : MAct V s z h code ans s' (some (.int code)) V1 := by
  refine ⟨fun k hk2 => ?_, fun i hi => ?_, Or.inl ⟨hk, rfl, hM.fr (by rw [hF1 533 (by decide), mup_ne _ _ _ (by decide)]), hS.fr (by rw [hF1 532 (by decide), mup_oth _ _ _ _ (Or.inr (by decide))]) (by rw [hF1 535 (by decide), mup_ne _ _ _ (by decide)])⟩⟩
  · rw [hF1 k (by omega), mup_ne _ _ _ (by omega)]
  · rw [hF1 532 (by decide), mup_oth _ _ _ _ (Or.inr (by omega))]
theorem MS.m0 {V : Mm} {z : Nat} {h : Nat → Sv} (hS : MS V z h) : MS (mup V 532 0 0) z h := hS.fr (mup_oth _ _ _ _ (Or.inr (by decide))) (mup_ne _ _ _ (by decide))
theorem MR.m0 {V : Mm} {s : Sv} (h : MR V s) : MR (_root_.Jvm.Pilot.@@N@@.mup V 532 0 0) s := h.fr (mup_ne _ _ _ (by decide))
theorem cdE_ok {c : Int32} (h : cdE c) (h0 : 0 ≤ c) : c = 0 := by
  rcases h with h | h | h | h
  · exact h
  · rw [h] at h0; exact absurd h0 (by decide)
  · rw [h] at h0; exact absurd h0 (by decide)
  · rw [h] at h0; exact absurd h0 (by decide)
theorem cif_0 {P : Prop} {c : Int32} (h : cif P c (-100001) = 0) : P ∧ c = 0 := by
  by_cases p : P
  · exact ⟨p, (cif_t p).symm.trans h⟩
  · rw [cif_f p] at h; exact absurd h (by decide)
set_option maxHeartbeats 4000000 in
set_option maxRecDepth 100000 in
theorem ct_X12_setLevel (G : GT) (V : Mm) {s : Sv} {B : Int} {z : Nat} {h : Nat → Sv} (hM : MR V s) (hW : WF s B) (hS : MS V z h) (x : Int32) : Ct G mX12_setLevel 1 [adr G 532, .int x] (V) (MAct V s z h (cdLevel x) (s 1) (upd s 1 x)) := by
  refine Ct.of cf_X12_setLevel (List.forall_mem_cons.mpr ⟨rfl, List.forall_mem_cons.mpr ⟨rfl, fun _ h => absurd h List.not_mem_nil⟩⟩) (Nat.le_of_ble_eq_true rfl) (l0 := [some (adr G 532), some (.int x), none]) rfl (fun C hx hq => ?_)
  refine Ew.aload_n hx dX12_setLevel_0 rfl ?_
  refine Ew.iconst hx dX12_setLevel_1 k_iconst_0 ?_
  refine Ew.putI hx dX12_setLevel_2 pg_RX12_31 rfl ?_
  refine Ew.iload_n hx dX12_setLevel_5 rfl ?_
  refine Ew.iconst hx dX12_setLevel_6 k_iconst_0 ?_
  refine Ew.sipush hx dX12_setLevel_7 k_sipush_5000 ?_
  refine Ew.callS (y' := mX12_in) hx dX12_setLevel_10 ml_RX12_38 cf_X12_in cs_X12_in (ct_X12_in G _ _ _ _) rfl (by decide) (by decide) rfl (Nat.le_of_ble_eq_true rfl) ?_
  rintro _ V9 ⟨rfl, h9⟩; subst V9
  refine Ew.ifne_b hx (tgt := 19) dX12_setLevel_13 rfl (fun h13 => ?_) (fun h13 => ?_)
  · have ok : cdLevel x = 0 := cif_t h13
    refine Ew.aload_n hx dX12_setLevel_19 rfl ?_
    refine Ew.callV2 (y' := mX12_act) hx dX12_setLevel_20 ml_RX12_70 cf_X12_act cv_X12_act (ct_X12_act G _ hM.m0 hS.m0) rfl oc_19 rfl (by decide) (by decide) rfl (Nat.le_of_ble_eq_true rfl) ?_
    rintro v V2 hA; obtain rfl := hA.1; have hM2 := hA.mr hM.m0
    refine Ew.aload_n hx dX12_setLevel_23 rfl ?_
    refine Ew.getR (533) hx dX12_setLevel_24 fg_RX12_7 rfl rfl ?_
    refine Ew.iconst hx dX12_setLevel_27 k_iconst_1 ?_
    refine Ew.iald (i := 1) hx dX12_setLevel_28 ag_20 rfl (rfl) (by decide) ?_
    rw [hM2 1 (by decide)]
    refine Ew.istore_n hx dX12_setLevel_29 (by decide) rfl ?_
    refine Ew.aload_n hx dX12_setLevel_30 rfl ?_
    refine Ew.getR (533) hx dX12_setLevel_31 fg_RX12_7 rfl rfl ?_
    refine Ew.iconst hx dX12_setLevel_34 k_iconst_1 ?_
    refine Ew.iload_n hx dX12_setLevel_35 rfl ?_
    refine Ew.iast (i := 1) hx dX12_setLevel_36 ag_20 rfl (rfl) (by decide) ?_
    refine Ew.iload_n hx dX12_setLevel_37 rfl ?_
    refine Ew.iret hx hq dX12_setLevel_38 rfl ?_
    exact mact_ok (fun _ _ => rfl) hA ok (hM2.put _ _) (fun k h1 _ => mup_ne _ _ _ h1)
  · have ec : cdLevel x = -100001 := cif_f h13
    refine Ew.ldc hx dX12_setLevel_16 kn_RX12_69 ?_
    refine Ew.iret hx hq dX12_setLevel_18 rfl ?_
    rw [← ec]
    exact mact_no (fun _ _ => rfl) hM hS (by rw [ec]; decide)
set_option maxHeartbeats 4000000 in
set_option maxRecDepth 100000 in
theorem ct_X12_rateCode (G : GT) (V : Mm) (w x : Int32) : Ct G mX12_rateCode 1 [adr G 532, .int w, .int x] (V) (Ri (cdRate w x) V) := by
  refine Ct.of cf_X12_rateCode (List.forall_mem_cons.mpr ⟨rfl, List.forall_mem_cons.mpr ⟨rfl, List.forall_mem_cons.mpr ⟨rfl, fun _ h => absurd h List.not_mem_nil⟩⟩⟩) (Nat.le_of_ble_eq_true rfl) (l0 := [some (adr G 532), some (.int w), some (.int x)]) rfl (fun C hx hq => ?_)
  refine Ew.iload_n hx dX12_rateCode_0 rfl ?_
  refine Ew.iconst hx dX12_rateCode_1 k_iconst_0 ?_
  refine Ew.bipush hx dX12_rateCode_2 k_bipush_25 ?_
  refine Ew.callS (y' := mX12_in) hx dX12_rateCode_4 ml_RX12_38 cf_X12_in cs_X12_in (ct_X12_in G _ _ _ _) rfl (by decide) (by decide) rfl (Nat.le_of_ble_eq_true rfl) ?_
  rintro _ V9 ⟨rfl, h9⟩; subst V9
  refine Ew.ifeq_b hx (tgt := 25) dX12_rateCode_7 rfl (fun h7 => ?_) (fun h7 => ?_)
  · refine Ew.ldc hx dX12_rateCode_25 kn_RX12_69 ?_
    refine Ew.iret hx hq dX12_rateCode_27 rfl ?_
    refine ⟨congrArg (fun z => some (Value.int z)) ?_, rfl⟩
    first | exact (cif_t ⟨h7, h18⟩).symm | exact (cif_f (fun q => h18 q.2)).symm | exact (cif_f (fun q => h7 q.1)).symm
  · refine Ew.iload_n hx dX12_rateCode_10 rfl ?_
    refine Ew.bipush hx dX12_rateCode_11 k_bipush_m50 ?_
    refine Ew.bipush hx dX12_rateCode_13 k_bipush_50 ?_
    refine Ew.callS (y' := mX12_in) hx dX12_rateCode_15 ml_RX12_38 cf_X12_in cs_X12_in (ct_X12_in G _ _ _ _) rfl (by decide) (by decide) rfl (Nat.le_of_ble_eq_true rfl) ?_
    rintro _ V9 ⟨rfl, h9⟩; subst V9
    refine Ew.ifeq_b hx (tgt := 25) dX12_rateCode_18 rfl (fun h18 => ?_) (fun h18 => ?_)
    · refine Ew.ldc hx dX12_rateCode_25 kn_RX12_69 ?_
      refine Ew.iret hx hq dX12_rateCode_27 rfl ?_
      refine ⟨congrArg (fun z => some (Value.int z)) ?_, rfl⟩
      first | exact (cif_t ⟨h7, h18⟩).symm | exact (cif_f (fun q => h18 q.2)).symm | exact (cif_f (fun q => h7 q.1)).symm
    · refine Ew.iconst hx dX12_rateCode_21 k_iconst_0 ?_
      refine Ew.goto hx (tgt := 27) dX12_rateCode_22 rfl ?_
      refine Ew.iret hx hq dX12_rateCode_27 rfl ?_
      refine ⟨congrArg (fun z => some (Value.int z)) ?_, rfl⟩
      first | exact (cif_t ⟨h7, h18⟩).symm | exact (cif_f (fun q => h18 q.2)).symm | exact (cif_f (fun q => h7 q.1)).symm
set_option maxHeartbeats 4000000 in
set_option maxRecDepth 100000 in
theorem ct_X12_rateNow (G : GT) (V : Mm) {w : Nat} (hw : w < 26) (x : Int32) : Ct G mX12_rateNow 0 [adr G 532, .int (nI w), .int x] (V) (fun v V9 => v = some (.int (V 533 (11 + w))) ∧ V9 = mup V 533 (11 + w) x) := by
  refine Ct.of cf_X12_rateNow (List.forall_mem_cons.mpr ⟨rfl, List.forall_mem_cons.mpr ⟨rfl, List.forall_mem_cons.mpr ⟨rfl, fun _ h => absurd h List.not_mem_nil⟩⟩⟩) (Nat.le_of_ble_eq_true rfl) (l0 := [some (adr G 532), some (.int (nI w)), some (.int x), none]) rfl (fun C hx hq => ?_)
  refine Ew.aload_n hx dX12_rateNow_0 rfl ?_
  refine Ew.getR (533) hx dX12_rateNow_1 fg_RX12_7 rfl rfl ?_
  refine Ew.bipush hx dX12_rateNow_4 k_bipush_11 ?_
  refine Ew.iload_n hx dX12_rateNow_6 rfl ?_
  refine Ew.iadd hx dX12_rateNow_7 ?_
  refine Ew.iald (i := 11 + w) hx dX12_rateNow_8 ag_20 rfl (nI_add 11 w) (by omega) ?_
  refine Ew.istore_n hx dX12_rateNow_9 (by decide) rfl ?_
  refine Ew.aload_n hx dX12_rateNow_10 rfl ?_
  refine Ew.getR (533) hx dX12_rateNow_11 fg_RX12_7 rfl rfl ?_
  refine Ew.bipush hx dX12_rateNow_14 k_bipush_11 ?_
  refine Ew.iload_n hx dX12_rateNow_16 rfl ?_
  refine Ew.iadd hx dX12_rateNow_17 ?_
  refine Ew.iload_n hx dX12_rateNow_18 rfl ?_
  refine Ew.iast (i := 11 + w) hx dX12_rateNow_19 ag_20 rfl (nI_add 11 w) (by omega) ?_
  refine Ew.iload_n hx dX12_rateNow_20 rfl ?_
  refine Ew.iret hx hq dX12_rateNow_21 rfl ?_
  exact ⟨rfl, rfl⟩
set_option maxHeartbeats 4000000 in
set_option maxRecDepth 100000 in
theorem ct_X12_setRate (G : GT) (V : Mm) {s : Sv} {B : Int} {z : Nat} {h : Nat → Sv} (hM : MR V s) (hW : WF s B) (hS : MS V z h) (w x : Int32) : Ct G mX12_setRate 2 [adr G 532, .int w, .int x] (V) (MAct V s z h (cdRate w x) (s (11 + nt w)) (upd s (11 + nt w) x)) := by
  refine Ct.of cf_X12_setRate (List.forall_mem_cons.mpr ⟨rfl, List.forall_mem_cons.mpr ⟨rfl, List.forall_mem_cons.mpr ⟨rfl, fun _ h => absurd h List.not_mem_nil⟩⟩⟩) (Nat.le_of_ble_eq_true rfl) (l0 := [some (adr G 532), some (.int w), some (.int x), none]) rfl (fun C hx hq => ?_)
  refine Ew.aload_n hx dX12_setRate_0 rfl ?_
  refine Ew.iconst hx dX12_setRate_1 k_iconst_0 ?_
  refine Ew.putI hx dX12_setRate_2 pg_RX12_31 rfl ?_
  refine Ew.aload_n hx dX12_setRate_5 rfl ?_
  refine Ew.iload_n hx dX12_setRate_6 rfl ?_
  refine Ew.iload_n hx dX12_setRate_7 rfl ?_
  refine Ew.callV2 (y' := mX12_rateCode) hx dX12_setRate_8 ml_RX12_73 cf_X12_rateCode cv_X12_rateCode (ct_X12_rateCode G _ w x) rfl oc_19 rfl (by decide) (by decide) rfl (Nat.le_of_ble_eq_true rfl) ?_
  rintro _ V9 ⟨rfl, h9⟩; subst V9
  refine Ew.istore_n hx dX12_setRate_11 (by decide) rfl ?_
  refine Ew.iload_n hx dX12_setRate_12 rfl ?_
  refine Ew.if_ge hx (tgt := 18) dX12_setRate_13 rfl (fun h13 => ?_) (fun h13 => ?_)
  · have ok := cdE_ok (cdRate_e w x) h13
    have hw := (cif_0 ok).1.1
    rw [ie, ie, tl_0, tl_25] at hw
    have ew : w = nI (nt w) := ofNI hw.1
    have hn : nt w < 26 := by unfold nt; omega
    refine Ew.aload_n hx dX12_setRate_18 rfl ?_
    refine Ew.callV2 (y' := mX12_act) hx dX12_setRate_19 ml_RX12_70 cf_X12_act cv_X12_act (ct_X12_act G _ hM.m0 hS.m0) rfl oc_19 rfl (by decide) (by decide) rfl (Nat.le_of_ble_eq_true rfl) ?_
    rintro v V2 hA; obtain rfl := hA.1; have hM2 := hA.mr hM.m0
    refine Ew.aload_n hx dX12_setRate_22 rfl ?_
    refine Ew.iload_n hx dX12_setRate_23 rfl ?_
    refine Ew.iload_n hx dX12_setRate_24 rfl ?_
    rw [ew]
    refine Ew.callV2 (y' := mX12_rateNow) hx dX12_setRate_25 ml_RX12_76 cf_X12_rateNow cv_X12_rateNow (ct_X12_rateNow G V2 hn x) rfl oc_19 rfl (by decide) (by decide) rfl (Nat.le_of_ble_eq_true rfl) ?_
    rintro _ V9 ⟨rfl, h9⟩; subst V9
    rw [hM2 _ (by omega)]
    refine Ew.iret hx hq dX12_setRate_28 rfl ?_
    exact mact_ok (fun _ _ => rfl) hA ok (hM2.put _ _) (fun k h1 _ => mup_ne _ _ _ h1)
  · refine Ew.iload_n hx dX12_setRate_16 rfl ?_
    refine Ew.iret hx hq dX12_setRate_17 rfl ?_
    exact mact_no (fun _ _ => rfl) hM hS (by rw [il, tl_0]; rw [ie, tl_0] at h13; omega)
theorem ix_f {n : Nat} (h : n ≤ 3) (h1 : 1 ≤ n) : 4 + nI n - 1 = nI (4 + (n - 1)) := (show ∀ n, n ≤ 3 → 1 ≤ n → 4 + nI n - 1 = nI (4 + (n - 1)) by decide) n h h1
set_option maxHeartbeats 4000000 in
set_option maxRecDepth 100000 in
theorem ct_X12_setFine (G : GT) (V : Mm) {s : Sv} {B : Int} {z : Nat} {h : Nat → Sv} (hM : MR V s) (hW : WF s B) (hS : MS V z h) (r a : Int32) : Ct G mX12_setFine 1 [adr G 532, .int r, .int a] (V) (MAct V s z h (cdFine r a) (s (4 + (nt r - 1))) (upd s (4 + (nt r - 1)) a)) := by
  refine Ct.of cf_X12_setFine (List.forall_mem_cons.mpr ⟨rfl, List.forall_mem_cons.mpr ⟨rfl, List.forall_mem_cons.mpr ⟨rfl, fun _ h => absurd h List.not_mem_nil⟩⟩⟩) (Nat.le_of_ble_eq_true rfl) (l0 := [some (adr G 532), some (.int r), some (.int a), none]) rfl (fun C hx hq => ?_)
  refine Ew.aload_n hx dX12_setFine_0 rfl ?_
  refine Ew.iconst hx dX12_setFine_1 k_iconst_0 ?_
  refine Ew.putI hx dX12_setFine_2 pg_RX12_31 rfl ?_
  refine Ew.iload_n hx dX12_setFine_5 rfl ?_
  refine Ew.iconst hx dX12_setFine_6 k_iconst_1 ?_
  refine Ew.iconst hx dX12_setFine_7 k_iconst_3 ?_
  refine Ew.callS (y' := mX12_in) hx dX12_setFine_8 ml_RX12_38 cf_X12_in cs_X12_in (ct_X12_in G _ _ _ _) rfl (by decide) (by decide) rfl (Nat.le_of_ble_eq_true rfl) ?_
  rintro _ V9 ⟨rfl, h9⟩; subst V9
  refine Ew.ifeq_b hx (tgt := 25) dX12_setFine_11 rfl (fun h11 => ?_) (fun h11 => ?_)
  · have ec : cdFine r a = -100001 := cif_f (fun q => h11 q.1)
    refine Ew.ldc hx dX12_setFine_25 kn_RX12_69 ?_
    refine Ew.iret hx hq dX12_setFine_27 rfl ?_
    rw [← ec]
    exact mact_no (fun _ _ => rfl) hM hS (by rw [ec]; decide)
  · refine Ew.iload_n hx dX12_setFine_14 rfl ?_
    refine Ew.iconst hx dX12_setFine_15 k_iconst_0 ?_
    refine Ew.sipush hx dX12_setFine_16 k_sipush_500 ?_
    refine Ew.callS (y' := mX12_in) hx dX12_setFine_19 ml_RX12_38 cf_X12_in cs_X12_in (ct_X12_in G _ _ _ _) rfl (by decide) (by decide) rfl (Nat.le_of_ble_eq_true rfl) ?_
    rintro _ V9 ⟨rfl, h9⟩; subst V9
    refine Ew.ifne_b hx (tgt := 28) dX12_setFine_22 rfl (fun h22 => ?_) (fun h22 => ?_)
    · have ok : cdFine r a = 0 := cif_t ⟨h11, h22⟩
      have hr := h11
      rw [ie, ie, tl_3, show (1 : Int32).toInt = 1 by decide] at hr
      have er : r = nI (nt r) := ofNI (by omega)
      have hn : nt r ≤ 3 ∧ 1 ≤ nt r := by unfold nt; omega
      refine Ew.aload_n hx dX12_setFine_28 rfl ?_
      refine Ew.callV2 (y' := mX12_act) hx dX12_setFine_29 ml_RX12_70 cf_X12_act cv_X12_act (ct_X12_act G _ hM.m0 hS.m0) rfl oc_19 rfl (by decide) (by decide) rfl (Nat.le_of_ble_eq_true rfl) ?_
      rintro v V2 hA; obtain rfl := hA.1; have hM2 := hA.mr hM.m0
      refine Ew.aload_n hx dX12_setFine_32 rfl ?_
      refine Ew.getR (533) hx dX12_setFine_33 fg_RX12_7 rfl rfl ?_
      refine Ew.iconst hx dX12_setFine_36 k_iconst_4 ?_
      refine Ew.iload_n hx dX12_setFine_37 rfl ?_
      refine Ew.iadd hx dX12_setFine_38 ?_
      refine Ew.iconst hx dX12_setFine_39 k_iconst_1 ?_
      refine Ew.isub hx dX12_setFine_40 ?_
      refine Ew.iald (i := 4 + (nt r - 1)) hx dX12_setFine_41 ag_20 rfl ((congrArg (fun z : Int32 => 4 + z - 1) er).trans (ix_f hn.1 hn.2)) (by omega) ?_
      rw [hM2 _ (by omega)]
      refine Ew.istore_n hx dX12_setFine_42 (by decide) rfl ?_
      refine Ew.aload_n hx dX12_setFine_43 rfl ?_
      refine Ew.getR (533) hx dX12_setFine_44 fg_RX12_7 rfl rfl ?_
      refine Ew.iconst hx dX12_setFine_47 k_iconst_4 ?_
      refine Ew.iload_n hx dX12_setFine_48 rfl ?_
      refine Ew.iadd hx dX12_setFine_49 ?_
      refine Ew.iconst hx dX12_setFine_50 k_iconst_1 ?_
      refine Ew.isub hx dX12_setFine_51 ?_
      refine Ew.iload_n hx dX12_setFine_52 rfl ?_
      refine Ew.iast (i := 4 + (nt r - 1)) hx dX12_setFine_53 ag_20 rfl ((congrArg (fun z : Int32 => 4 + z - 1) er).trans (ix_f hn.1 hn.2)) (by omega) ?_
      refine Ew.iload_n hx dX12_setFine_54 rfl ?_
      refine Ew.iret hx hq dX12_setFine_55 rfl ?_
      exact mact_ok (fun _ _ => rfl) hA ok (hM2.put _ _) (fun k h1 _ => mup_ne _ _ _ h1)
    · have ec : cdFine r a = -100001 := cif_f (fun q => h22 q.2)
      refine Ew.ldc hx dX12_setFine_25 kn_RX12_69 ?_
      refine Ew.iret hx hq dX12_setFine_27 rfl ?_
      rw [← ec]
      exact mact_no (fun _ _ => rfl) hM hS (by rw [ec]; decide)
set_option maxHeartbeats 4000000 in
set_option maxRecDepth 100000 in
theorem ct_X12_rampCode (G : GT) (V : Mm) {s : Sv} (hM : MR V s) (e b f : Int32) : Ct G mX12_rampCode 1 [adr G 532, .int e, .int b, .int f] (V) (Ri (cdRamp s e b f) V) := by
  refine Ct.of cf_X12_rampCode (List.forall_mem_cons.mpr ⟨rfl, List.forall_mem_cons.mpr ⟨rfl, List.forall_mem_cons.mpr ⟨rfl, List.forall_mem_cons.mpr ⟨rfl, fun _ h => absurd h List.not_mem_nil⟩⟩⟩⟩) (Nat.le_of_ble_eq_true rfl) (l0 := [some (adr G 532), some (.int e), some (.int b), some (.int f)]) rfl (fun C hx hq => ?_)
  refine Ew.iload_n hx dX12_rampCode_0 rfl ?_
  refine Ew.iconst hx dX12_rampCode_1 k_iconst_0 ?_
  refine Ew.sipush hx dX12_rampCode_2 k_sipush_4000 ?_
  refine Ew.callS (y' := mX12_in) hx dX12_rampCode_5 ml_RX12_38 cf_X12_in cs_X12_in (ct_X12_in G _ _ _ _) rfl (by decide) (by decide) rfl (Nat.le_of_ble_eq_true rfl) ?_
  rintro _ V9 ⟨rfl, h9⟩; subst V9
  refine Ew.ifeq_b hx (tgt := 32) dX12_rampCode_8 rfl (fun h8 => ?_) (fun h8 => ?_)
  · have ec : cdRamp s e b f = -100001 := cif_f (fun q => h8 q.1)
    refine Ew.ldc hx dX12_rampCode_32 kn_RX12_69 ?_
    refine Ew.iret hx hq dX12_rampCode_34 rfl ?_
    refine ⟨congrArg (fun z => some (Value.int z)) ?_, rfl⟩
    exact ec.symm
  · refine Ew.iload_n hx dX12_rampCode_11 rfl ?_
    refine Ew.iconst hx dX12_rampCode_12 k_iconst_1 ?_
    refine Ew.bipush hx dX12_rampCode_13 k_bipush_20 ?_
    refine Ew.callS (y' := mX12_in) hx dX12_rampCode_15 ml_RX12_38 cf_X12_in cs_X12_in (ct_X12_in G _ _ _ _) rfl (by decide) (by decide) rfl (Nat.le_of_ble_eq_true rfl) ?_
    rintro _ V9 ⟨rfl, h9⟩; subst V9
    refine Ew.ifeq_b hx (tgt := 32) dX12_rampCode_18 rfl (fun h18 => ?_) (fun h18 => ?_)
    · have ec : cdRamp s e b f = -100001 := cif_f (fun q => h18 q.2.1)
      refine Ew.ldc hx dX12_rampCode_32 kn_RX12_69 ?_
      refine Ew.iret hx hq dX12_rampCode_34 rfl ?_
      refine ⟨congrArg (fun z => some (Value.int z)) ?_, rfl⟩
      exact ec.symm
    · refine Ew.iload_n hx dX12_rampCode_21 rfl ?_
      refine Ew.iconst hx dX12_rampCode_22 k_iconst_1 ?_
      refine Ew.sipush hx dX12_rampCode_23 k_sipush_500 ?_
      refine Ew.callS (y' := mX12_in) hx dX12_rampCode_26 ml_RX12_38 cf_X12_in cs_X12_in (ct_X12_in G _ _ _ _) rfl (by decide) (by decide) rfl (Nat.le_of_ble_eq_true rfl) ?_
      rintro _ V9 ⟨rfl, h9⟩; subst V9
      refine Ew.ifne_b hx (tgt := 35) dX12_rampCode_29 rfl (fun h29 => ?_) (fun h29 => ?_)
      · have ec : cdRamp s e b f = cif (s 2 = 4) (-100003) 0 := cif_t ⟨h8, h18, h29⟩
        refine Ew.aload_n hx dX12_rampCode_35 rfl ?_
        refine Ew.getR (533) hx dX12_rampCode_36 fg_RX12_7 rfl rfl ?_
        refine Ew.iconst hx dX12_rampCode_39 k_iconst_2 ?_
        refine Ew.iald (i := 2) hx dX12_rampCode_40 ag_20 rfl (rfl) (by decide) ?_
        rw [hM 2 (by decide)]
        refine Ew.iconst hx dX12_rampCode_41 k_iconst_4 ?_
        refine Ew.icmp_ne hx (tgt := 50) dX12_rampCode_42 rfl (fun h42 => ?_) (fun h42 => ?_)
        · refine Ew.iconst hx dX12_rampCode_50 k_iconst_0 ?_
          refine Ew.iret hx hq dX12_rampCode_51 rfl ?_
          refine ⟨congrArg (fun z => some (Value.int z)) ?_, rfl⟩
          rw [ec]
          first | exact (cif_t h42).symm | exact (cif_f h42).symm
        · refine Ew.ldc hx dX12_rampCode_45 kn_RX12_79 ?_
          refine Ew.goto hx (tgt := 51) dX12_rampCode_47 rfl ?_
          refine Ew.iret hx hq dX12_rampCode_51 rfl ?_
          refine ⟨congrArg (fun z => some (Value.int z)) ?_, rfl⟩
          rw [ec]
          first | exact (cif_t h42).symm | exact (cif_f h42).symm
      · have ec : cdRamp s e b f = -100001 := cif_f (fun q => h29 q.2.2)
        refine Ew.ldc hx dX12_rampCode_32 kn_RX12_69 ?_
        refine Ew.iret hx hq dX12_rampCode_34 rfl ?_
        refine ⟨congrArg (fun z => some (Value.int z)) ?_, rfl⟩
        exact ec.symm
set_option maxHeartbeats 4000000 in
set_option maxRecDepth 100000 in
theorem ct_X12_rampNow (G : GT) (V : Mm) {s : Sv} {B : Int} (hM : MR V s) (hW : WF s B) (hr : nrN s < 4) (e b f : Int32) : Ct G mX12_rampNow 0 [adr G 532, .int e, .int b, .int f] (V) (fun v V9 => v = some (.int (s 2)) ∧ MR V9 (nxRamp s e b f) ∧ ∀ k, k ≠ 533 → V9 k = V k) := by
  refine Ct.of cf_X12_rampNow (List.forall_mem_cons.mpr ⟨rfl, List.forall_mem_cons.mpr ⟨rfl, List.forall_mem_cons.mpr ⟨rfl, List.forall_mem_cons.mpr ⟨rfl, fun _ h => absurd h List.not_mem_nil⟩⟩⟩⟩) (Nat.le_of_ble_eq_true rfl) (l0 := [some (adr G 532), some (.int e), some (.int b), some (.int f), none]) rfl (fun C hx hq => ?_)
  refine Ew.bipush hx dX12_rampNow_0 k_bipush_37 ?_
  refine Ew.iconst hx dX12_rampNow_2 k_iconst_3 ?_
  refine Ew.aload_n hx dX12_rampNow_3 rfl ?_
  refine Ew.getR (533) hx dX12_rampNow_4 fg_RX12_7 rfl rfl ?_
  refine Ew.iconst hx dX12_rampNow_7 k_iconst_2 ?_
  refine Ew.iald (i := 2) hx dX12_rampNow_8 ag_20 rfl (rfl) (by decide) ?_
  rw [hM 2 (by decide)]
  refine Ew.imul hx dX12_rampNow_9 ?_
  refine Ew.iadd hx dX12_rampNow_10 ?_
  refine Ew.istore hx dX12_rampNow_11 (by decide) rfl ?_
  refine Ew.aload_n hx dX12_rampNow_13 rfl ?_
  refine Ew.getR (533) hx dX12_rampNow_14 fg_RX12_7 rfl rfl ?_
  refine Ew.iload hx dX12_rampNow_17 rfl ?_
  refine Ew.iconst hx dX12_rampNow_19 k_iconst_0 ?_
  refine Ew.iadd hx dX12_rampNow_20 ?_
  refine Ew.iload_n hx dX12_rampNow_21 rfl ?_
  refine Ew.iast (i := 37 + 3 * nrN s + 0) hx dX12_rampNow_22 ag_20 rfl ((by rw [hW.nr.1]; exact ix_r hr (j := 0) (by decide))) (by omega) ?_
  refine Ew.aload_n hx dX12_rampNow_23 rfl ?_
  refine Ew.getR (533) hx dX12_rampNow_24 fg_RX12_7 rfl rfl ?_
  refine Ew.iload hx dX12_rampNow_27 rfl ?_
  refine Ew.iconst hx dX12_rampNow_29 k_iconst_1 ?_
  refine Ew.iadd hx dX12_rampNow_30 ?_
  refine Ew.iload_n hx dX12_rampNow_31 rfl ?_
  refine Ew.iast (i := 37 + 3 * nrN s + 1) hx dX12_rampNow_32 ag_20 rfl ((by rw [hW.nr.1]; exact ix_r hr (j := 1) (by decide))) (by omega) ?_
  refine Ew.aload_n hx dX12_rampNow_33 rfl ?_
  refine Ew.getR (533) hx dX12_rampNow_34 fg_RX12_7 rfl rfl ?_
  refine Ew.iload hx dX12_rampNow_37 rfl ?_
  refine Ew.iconst hx dX12_rampNow_39 k_iconst_2 ?_
  refine Ew.iadd hx dX12_rampNow_40 ?_
  refine Ew.iload_n hx dX12_rampNow_41 rfl ?_
  refine Ew.iast (i := 37 + 3 * nrN s + 2) hx dX12_rampNow_42 ag_20 rfl ((by rw [hW.nr.1]; exact ix_r hr (j := 2) (by decide))) (by omega) ?_
  have hQ := ((hM.put (37 + 3 * nrN s + 0) e).put (37 + 3 * nrN s + 1) b).put (37 + 3 * nrN s + 2) f
  refine Ew.aload_n hx dX12_rampNow_43 rfl ?_
  refine Ew.getR (533) hx dX12_rampNow_44 fg_RX12_7 rfl rfl ?_
  refine Ew.iconst hx dX12_rampNow_47 k_iconst_2 ?_
  refine Ew.dup2 hx dX12_rampNow_48 rfl rfl ?_
  refine Ew.iald (i := 2) hx dX12_rampNow_49 ag_20 rfl (rfl) (by decide) ?_
  rw [hQ 2 (by decide), upd_n _ _ (by omega), upd_n _ _ (by omega), upd_n _ _ (by omega)]
  refine Ew.iconst hx dX12_rampNow_50 k_iconst_1 ?_
  refine Ew.iadd hx dX12_rampNow_51 ?_
  refine Ew.iast (i := 2) hx dX12_rampNow_52 ag_20 rfl (rfl) (by decide) ?_
  refine Ew.aload_n hx dX12_rampNow_53 rfl ?_
  refine Ew.getR (533) hx dX12_rampNow_54 fg_RX12_7 rfl rfl ?_
  refine Ew.iconst hx dX12_rampNow_57 k_iconst_2 ?_
  refine Ew.iald (i := 2) hx dX12_rampNow_58 ag_20 rfl (rfl) (by decide) ?_
  rw [mup_self]
  refine Ew.iconst hx dX12_rampNow_59 k_iconst_1 ?_
  refine Ew.isub hx dX12_rampNow_60 ?_
  refine Ew.iret hx hq dX12_rampNow_61 rfl ?_
  rw [Int32.add_sub_cancel]
  refine ⟨rfl, hQ.put 2 (s 2 + 1), fun k hk => ?_⟩
  rw [mup_ne _ _ _ hk, mup_ne _ _ _ hk, mup_ne _ _ _ hk, mup_ne _ _ _ hk]
set_option maxHeartbeats 4000000 in
set_option maxRecDepth 100000 in
theorem ct_X12_addRamp (G : GT) (V : Mm) {s : Sv} {B : Int} {z : Nat} {h : Nat → Sv} (hM : MR V s) (hW : WF s B) (hS : MS V z h) (e b f : Int32) : Ct G mX12_addRamp 2 [adr G 532, .int e, .int b, .int f] (V) (MAct V s z h (cdRamp s e b f) (s 2) (nxRamp s e b f)) := by
  refine Ct.of cf_X12_addRamp (List.forall_mem_cons.mpr ⟨rfl, List.forall_mem_cons.mpr ⟨rfl, List.forall_mem_cons.mpr ⟨rfl, List.forall_mem_cons.mpr ⟨rfl, fun _ h => absurd h List.not_mem_nil⟩⟩⟩⟩) (Nat.le_of_ble_eq_true rfl) (l0 := [some (adr G 532), some (.int e), some (.int b), some (.int f), none]) rfl (fun C hx hq => ?_)
  refine Ew.aload_n hx dX12_addRamp_0 rfl ?_
  refine Ew.iconst hx dX12_addRamp_1 k_iconst_0 ?_
  refine Ew.putI hx dX12_addRamp_2 pg_RX12_31 rfl ?_
  refine Ew.aload_n hx dX12_addRamp_5 rfl ?_
  refine Ew.iload_n hx dX12_addRamp_6 rfl ?_
  refine Ew.iload_n hx dX12_addRamp_7 rfl ?_
  refine Ew.iload_n hx dX12_addRamp_8 rfl ?_
  refine Ew.callV2 (y' := mX12_rampCode) hx dX12_addRamp_9 ml_RX12_80 cf_X12_rampCode cv_X12_rampCode (ct_X12_rampCode G _ hM.m0 e b f) rfl oc_19 rfl (by decide) (by decide) rfl (Nat.le_of_ble_eq_true rfl) ?_
  rintro _ V9 ⟨rfl, h9⟩; subst V9
  refine Ew.istore hx dX12_addRamp_12 (by decide) rfl ?_
  refine Ew.iload hx dX12_addRamp_14 rfl ?_
  refine Ew.if_ge hx (tgt := 22) dX12_addRamp_16 rfl (fun h16 => ?_) (fun h16 => ?_)
  · have ok := cdE_ok (cdRamp_e s e b f) h16
    have hr : nrN s < 4 := by
      have q2 := (cif_0 ok).2
      have q3 : ¬ s 2 = 4 := fun q => by rw [cif_t q] at q2; exact absurd q2 (by decide)
      have q4 := hW.nr
      have q5 : nrN s ≠ 4 := fun q => q3 (by rw [q4.1, q]; rfl)
      omega
    refine Ew.aload_n hx dX12_addRamp_22 rfl ?_
    refine Ew.callV2 (y' := mX12_act) hx dX12_addRamp_23 ml_RX12_70 cf_X12_act cv_X12_act (ct_X12_act G _ hM.m0 hS.m0) rfl oc_19 rfl (by decide) (by decide) rfl (Nat.le_of_ble_eq_true rfl) ?_
    rintro v V2 hA; obtain rfl := hA.1; have hM2 := hA.mr hM.m0
    refine Ew.aload_n hx dX12_addRamp_26 rfl ?_
    refine Ew.iload_n hx dX12_addRamp_27 rfl ?_
    refine Ew.iload_n hx dX12_addRamp_28 rfl ?_
    refine Ew.iload_n hx dX12_addRamp_29 rfl ?_
    refine Ew.callV2 (y' := mX12_rampNow) hx dX12_addRamp_30 ml_RX12_83 cf_X12_rampNow cv_X12_rampNow (ct_X12_rampNow G V2 hM2 hW hr e b f) rfl oc_19 rfl (by decide) (by decide) rfl (Nat.le_of_ble_eq_true rfl) ?_
    rintro _ V3 ⟨rfl, hM3, hF3⟩
    refine Ew.iret hx hq dX12_addRamp_33 rfl ?_
    exact mact_ok (fun _ _ => rfl) hA ok hM3 (fun k h1 _ => hF3 k h1)
  · refine Ew.iload hx dX12_addRamp_19 rfl ?_
    refine Ew.iret hx hq dX12_addRamp_21 rfl ?_
    exact mact_no (fun _ _ => rfl) hM hS (by rw [il, tl_0]; rw [ie, tl_0] at h16; omega)
set_option maxHeartbeats 4000000 in
set_option maxRecDepth 100000 in
theorem ct_X12_setFee (G : GT) (V : Mm) {s : Sv} {B : Int} {z : Nat} {h : Nat → Sv} (hM : MR V s) (hW : WF s B) (hS : MS V z h) (x f : Int32) : Ct G mX12_setFee 2 [adr G 532, .int x, .int f] (V) (MAct V s z h (cdFee s x f) (rf s (nt x) 2) (upd s (37 + 3 * nt x + 2) f)) := by
  refine Ct.of cf_X12_setFee (List.forall_mem_cons.mpr ⟨rfl, List.forall_mem_cons.mpr ⟨rfl, List.forall_mem_cons.mpr ⟨rfl, fun _ h => absurd h List.not_mem_nil⟩⟩⟩) (Nat.le_of_ble_eq_true rfl) (l0 := [some (adr G 532), some (.int x), some (.int f), none]) rfl (fun C hx hq => ?_)
  refine Ew.aload_n hx dX12_setFee_0 rfl ?_
  refine Ew.iconst hx dX12_setFee_1 k_iconst_0 ?_
  refine Ew.putI hx dX12_setFee_2 pg_RX12_31 rfl ?_
  refine Ew.aload_n hx dX12_setFee_5 rfl ?_
  refine Ew.iload_n hx dX12_setFee_6 rfl ?_
  refine Ew.callV2 (y' := mX12_isRamp) hx dX12_setFee_7 ml_RX12_86 cf_X12_isRamp cv_X12_isRamp (ct_X12_isRamp G _ hM.m0 hW x) rfl oc_19 rfl (by decide) (by decide) rfl (Nat.le_of_ble_eq_true rfl) ?_
  rintro _ V9 ⟨rfl, h9⟩; subst V9
  refine Ew.ifeq_b hx (tgt := 24) dX12_setFee_10 rfl (fun h10 => ?_) (fun h10 => ?_)
  · have ec : cdFee s x f = -100001 := cif_f (fun q => h10 q.1)
    refine Ew.ldc hx dX12_setFee_24 kn_RX12_69 ?_
    refine Ew.iret hx hq dX12_setFee_26 rfl ?_
    rw [← ec]
    exact mact_no (fun _ _ => rfl) hM hS (by rw [ec]; decide)
  · refine Ew.iload_n hx dX12_setFee_13 rfl ?_
    refine Ew.iconst hx dX12_setFee_14 k_iconst_1 ?_
    refine Ew.sipush hx dX12_setFee_15 k_sipush_500 ?_
    refine Ew.callS (y' := mX12_in) hx dX12_setFee_18 ml_RX12_38 cf_X12_in cs_X12_in (ct_X12_in G _ _ _ _) rfl (by decide) (by decide) rfl (Nat.le_of_ble_eq_true rfl) ?_
    rintro _ V9 ⟨rfl, h9⟩; subst V9
    refine Ew.ifne_b hx (tgt := 27) dX12_setFee_21 rfl (fun h21 => ?_) (fun h21 => ?_)
    · have ok : cdFee s x f = 0 := cif_t ⟨h10, h21⟩
      obtain ⟨r, hxr, hr⟩ := hW.rix h10
      have hr4 : r < 4 := by have := hW.nr.2; omega
      have hxn : nt x = r := by rw [hxr, nt_nI (by omega)]
      refine Ew.aload_n hx dX12_setFee_27 rfl ?_
      refine Ew.callV2 (y' := mX12_act) hx dX12_setFee_28 ml_RX12_70 cf_X12_act cv_X12_act (ct_X12_act G _ hM.m0 hS.m0) rfl oc_19 rfl (by decide) (by decide) rfl (Nat.le_of_ble_eq_true rfl) ?_
      rintro v V2 hA; obtain rfl := hA.1; have hM2 := hA.mr hM.m0
      refine Ew.aload_n hx dX12_setFee_31 rfl ?_
      refine Ew.iload_n hx dX12_setFee_32 rfl ?_
      refine Ew.iconst hx dX12_setFee_33 k_iconst_2 ?_
      rw [hxr]
      refine Ew.callV2 (y' := mX12_ofRamp) hx dX12_setFee_34 ml_RX12_50 cf_X12_ofRamp cv_X12_ofRamp (ct_X12_ofRamp G V2 hr4 (j := 2) (by decide)) rfl oc_19 rfl (by decide) (by decide) rfl (Nat.le_of_ble_eq_true rfl) ?_
      rintro _ V9 ⟨rfl, h9⟩; subst V9
      rw [hM2 _ (by omega)]
      refine Ew.istore_n hx dX12_setFee_37 (by decide) rfl ?_
      refine Ew.aload_n hx dX12_setFee_38 rfl ?_
      refine Ew.getR (533) hx dX12_setFee_39 fg_RX12_7 rfl rfl ?_
      refine Ew.bipush hx dX12_setFee_42 k_bipush_37 ?_
      refine Ew.iconst hx dX12_setFee_44 k_iconst_3 ?_
      refine Ew.iload_n hx dX12_setFee_45 rfl ?_
      refine Ew.imul hx dX12_setFee_46 ?_
      refine Ew.iadd hx dX12_setFee_47 ?_
      refine Ew.iconst hx dX12_setFee_48 k_iconst_2 ?_
      refine Ew.iadd hx dX12_setFee_49 ?_
      refine Ew.iload_n hx dX12_setFee_50 rfl ?_
      refine Ew.iast (i := 37 + 3 * r + 2) hx dX12_setFee_51 ag_20 rfl ((by first | exact ix_r hr4 (j := 2) (by decide) | (rw [hxr]; exact ix_r hr4 (j := 2) (by decide)))) (by omega) ?_
      refine Ew.iload_n hx dX12_setFee_52 rfl ?_
      refine Ew.iret hx hq dX12_setFee_53 rfl ?_
      rw [hxn]
      exact mact_ok (fun _ _ => rfl) hA ok (hM2.put _ _) (fun k h1 _ => mup_ne _ _ _ h1)
    · have ec : cdFee s x f = -100001 := cif_f (fun q => h21 q.2)
      refine Ew.ldc hx dX12_setFee_24 kn_RX12_69 ?_
      refine Ew.iret hx hq dX12_setFee_26 rfl ?_
      rw [← ec]
      exact mact_no (fun _ _ => rfl) hM hS (by rw [ec]; decide)
