theorem ix_s {e : Nat} (h : e < 2) : 193 + 194 * nI e = nI (193 + 194 * e) := (show ∀ e, e < 2 → 193 + 194 * nI e = nI (193 + 194 * e) by decide) e h
def tkF (s : Sv) (e i : Nat) : Sv := fun m => if m = 193 + 194 * e then 1 else if 194 + 194 * e ≤ m ∧ m < 194 + 194 * e + i then s (m - (194 + 194 * e)) else s m
theorem tkF_lo (s : Sv) (e i : Nat) {m : Nat} (h : m < 193) : tkF s e i m = s m := by
  unfold tkF
  rw [if_neg (by omega), if_neg (by omega)]
theorem MR.tk0 {V : Mm} {s : Sv} (h : MR V s) (e : Nat) : MR (_root_.Jvm.Pilot.@@N@@.mup V 533 (193 + 194 * e) 1) (tkF s e 0) := fun m hm => by
  rw [h.put (193 + 194 * e) 1 m hm]
  unfold tkF
  by_cases q : m = 193 + 194 * e
  · rw [if_pos q, q, upd_s]
  · rw [if_neg q, if_neg (by omega), upd_n _ _ q]
theorem MR.tkS {V : Mm} {s : Sv} {e i : Nat} (h : MR V (tkF s e i)) : MR (_root_.Jvm.Pilot.@@N@@.mup V 533 (193 + 194 * e + 1 + i) (s i)) (tkF s e (i + 1)) := fun m hm => by
  rw [h.put (193 + 194 * e + 1 + i) (s i) m hm]
  by_cases q : m = 193 + 194 * e + 1 + i
  · subst q
    rw [upd_s]
    unfold tkF
    rw [if_neg (by omega), if_pos (by omega)]
    congr 1
    omega
  · rw [upd_n _ _ q]
    unfold tkF
    by_cases q1 : m = 193 + 194 * e
    · rw [if_pos q1, if_pos q1]
    · rw [if_neg q1, if_neg q1]
      by_cases q2 : 194 + 194 * e ≤ m ∧ m < 194 + 194 * e + i
      · rw [if_pos q2, if_pos (by omega)]
      · rw [if_neg q2, if_neg (by omega)]
def rsF (s : Sv) (e i : Nat) : Sv := fun m => if m < i then s (194 + 194 * e + m) else s m
theorem rsF_hi (s : Sv) {e i m : Nat} (h : i ≤ m) : rsF s e i m = s m := if_neg (by omega)
theorem MR.rs0 {V : Mm} {s : Sv} (h : MR V s) (e : Nat) : MR V (rsF s e 0) := fun m hm => (h m hm).trans (if_neg (Nat.not_lt_zero m)).symm
theorem MR.rsS {V : Mm} {s : Sv} {e i : Nat} (h : MR V (rsF s e i)) : MR (_root_.Jvm.Pilot.@@N@@.mup V 533 i (s (193 + 194 * e + 1 + i))) (rsF s e (i + 1)) := fun m hm => by
  rw [h.put i (s (193 + 194 * e + 1 + i)) m hm]
  by_cases q : m = i
  · subst q
    rw [upd_s]
    unfold rsF
    rw [if_pos (by omega)]
    congr 1
    omega
  · rw [upd_n _ _ q]
    unfold rsF
    by_cases q1 : m < i
    · rw [if_pos q1, if_pos (by omega)]
    · rw [if_neg q1, if_neg (by omega)]
set_option maxHeartbeats 4000000 in
set_option maxRecDepth 100000 in
theorem ct_X12_slotAt (G : GT) (V : Mm) {e : Nat} (he : e < 2) : Ct G mX12_slotAt 0 [.int (nI e)] (V) (Ri (nI (193 + 194 * e)) V) := by
  refine Ct.of cf_X12_slotAt (List.forall_mem_cons.mpr ⟨rfl, fun _ h => absurd h List.not_mem_nil⟩) (Nat.le_of_ble_eq_true rfl) (l0 := [some (.int (nI e))]) rfl (fun C hx hq => ?_)
  refine Ew.sipush hx dX12_slotAt_0 k_sipush_193 ?_
  refine Ew.sipush hx dX12_slotAt_3 k_sipush_194 ?_
  refine Ew.iload_n hx dX12_slotAt_6 rfl ?_
  refine Ew.imul hx dX12_slotAt_7 ?_
  refine Ew.iadd hx dX12_slotAt_8 ?_
  rw [ix_s he]
  refine Ew.iret hx hq dX12_slotAt_9 rfl ?_
  exact ⟨rfl, rfl⟩
set_option maxHeartbeats 4000000 in
set_option maxRecDepth 100000 in
theorem ct_X12_draughtBy (G : GT) (V : Mm) (lv e : Int32) : Ct G mX12_draughtBy 0 [.int (lv - e)] (V) (Ri (gdI lv e) V) := by
  refine Ct.of cf_X12_draughtBy (List.forall_mem_cons.mpr ⟨rfl, fun _ h => absurd h List.not_mem_nil⟩) (Nat.le_of_ble_eq_true rfl) (l0 := [some (.int (lv - e))]) rfl (fun C hx hq => ?_)
  refine Ew.iload_n hx dX12_draughtBy_0 rfl ?_
  refine Ew.if_ge hx (tgt := 9) dX12_draughtBy_1 rfl (fun h1 => ?_) (fun h1 => ?_)
  · have ec : gdI lv e = _ := if_neg (by rw [il]; rw [ie] at h1; omega)
    refine Ew.iload_n hx dX12_draughtBy_9 rfl ?_
    refine Ew.sipush hx dX12_draughtBy_10 k_sipush_300 ?_
    refine Ew.icmp_le hx (tgt := 22) dX12_draughtBy_13 rfl (fun h13 => ?_) (fun h13 => ?_)
    · have ec2 : (if (300 : Int32) < lv - e then 300 else lv - e) = lv - e := if_neg (by rw [il]; rw [ie] at h13; omega)
      replace ec := ec.trans ec2
      refine Ew.iload_n hx dX12_draughtBy_22 rfl ?_
      refine Ew.iret hx hq dX12_draughtBy_23 rfl ?_
      refine ⟨congrArg (fun z => some (Value.int z)) ?_, rfl⟩
      exact ec.symm
    · have ec2 : (if (300 : Int32) < lv - e then 300 else lv - e) = 300 := if_pos (by rw [il]; rw [ie] at h13; omega)
      replace ec := ec.trans ec2
      refine Ew.sipush hx dX12_draughtBy_16 k_sipush_300 ?_
      refine Ew.goto hx (tgt := 23) dX12_draughtBy_19 rfl ?_
      refine Ew.iret hx hq dX12_draughtBy_23 rfl ?_
      refine ⟨congrArg (fun z => some (Value.int z)) ?_, rfl⟩
      exact ec.symm
  · have ec : gdI lv e = -100009 := if_pos (by rw [il]; rw [ie] at h1; omega)
    refine Ew.ldc hx dX12_draughtBy_4 kn_RX12_200 ?_
    refine Ew.goto hx (tgt := 23) dX12_draughtBy_6 rfl ?_
    refine Ew.iret hx hq dX12_draughtBy_23 rfl ?_
    refine ⟨congrArg (fun z => some (Value.int z)) ?_, rfl⟩
    exact ec.symm
set_option maxHeartbeats 4000000 in
set_option maxRecDepth 100000 in
theorem lp_X12_take {G : GT} {C : CT} {V : Mm} {s : Sv} {e z : Nat} {h : Nat → Sv} {v : Option Value} {V2 : Mm} (he : e < 2) (hA : ActM (mup V 532 0 0) s z h v V2) (ok : cdTake (nI e) = 0) (hx : Cx G mX12_take 1 C) (hq : Cq G (MAct V s z h (cdTake (nI e)) (s 0) (nxTake s e)) C) : ∀ (n i : Nat), i + n = 193 → ∀ W : Mm, MR W (tkF s e i) → (∀ k, k ≠ 533 → W k = V2 k) → Ew G C (W) 33 [some (adr G 532), some (.int (nI e)), some (.int (nI i))] [] := by
  intro n
  induction n with
  | zero =>
    intro i hi W hR hF
    refine Ew.iload_n hx dX12_take_33 rfl ?_
    refine Ew.sipush hx dX12_take_34 k_sipush_193 ?_
    refine Ew.icmp_ge_t hx (tgt := 65) dX12_take_37 rfl (nI_le (a := 193) (b := i) (by omega) (by omega)) ?_
    refine Ew.aload_n hx dX12_take_65 rfl ?_
    refine Ew.getR (533) hx dX12_take_66 fg_RX12_7 rfl rfl ?_
    refine Ew.iconst hx dX12_take_69 k_iconst_0 ?_
    refine Ew.iald (i := 0) hx dX12_take_70 ag_20 rfl (rfl) (by decide) ?_
    have e193 : i = 193 := by omega
    subst e193
    rw [hR 0 (by decide), tkF_lo _ _ _ (by decide)]
    refine Ew.iret hx hq dX12_take_71 rfl ?_
    exact mact_ok (fun _ _ => rfl) hA ok hR (fun k h1 _ => hF k h1)
  | succ n ih =>
    intro i hi W hR hF
    refine Ew.iload_n hx dX12_take_33 rfl ?_
    refine Ew.sipush hx dX12_take_34 k_sipush_193 ?_
    refine Ew.icmp_ge_f hx (tgt := 65) dX12_take_37 rfl (nI_ge (a := i) (b := 193) (by omega) (by omega)) ?_
    refine Ew.aload_n hx dX12_take_40 rfl ?_
    refine Ew.getR (533) hx dX12_take_41 fg_RX12_7 rfl rfl ?_
    refine Ew.iload_n hx dX12_take_44 rfl ?_
    refine Ew.callS (y' := mX12_slotAt) hx dX12_take_45 ml_RX12_152 cf_X12_slotAt cs_X12_slotAt (ct_X12_slotAt G W he) rfl (by decide) (by decide) rfl (Nat.le_of_ble_eq_true rfl) ?_
    rintro _ V9 ⟨rfl, h9⟩; subst V9
    refine Ew.iconst hx dX12_take_48 k_iconst_1 ?_
    refine Ew.iadd hx dX12_take_49 ?_
    refine Ew.iload_n hx dX12_take_50 rfl ?_
    refine Ew.iadd hx dX12_take_51 ?_
    refine Ew.aload_n hx dX12_take_52 rfl ?_
    refine Ew.getR (533) hx dX12_take_53 fg_RX12_7 rfl rfl ?_
    refine Ew.iload_n hx dX12_take_56 rfl ?_
    refine Ew.iald (i := i) hx dX12_take_57 ag_20 rfl (rfl) (by omega) ?_
    rw [hR i (by omega), tkF_lo _ _ _ (by omega)]
    refine Ew.iast (i := 193 + 194 * e + 1 + i) hx dX12_take_58 ag_20 rfl ((by rw [nI_1, nI_add])) (by omega) ?_
    refine Ew.iinc hx dX12_take_59 rfl (k_iinc_1 _) (by decide) rfl ?_
    refine Ew.goto hx (tgt := 33) dX12_take_62 rfl ?_
    rw [nI_1]
    exact ih (i + 1) (by omega) _ hR.tkS (fun k hk => by rw [mup_ne _ _ _ hk]; exact hF k hk)
set_option maxHeartbeats 4000000 in
set_option maxRecDepth 100000 in
theorem ct_X12_take (G : GT) (V : Mm) {s : Sv} {z : Nat} {h : Nat → Sv} (hM : MR V s) (hS : MS V z h) (x : Int32) : Ct G mX12_take 1 [adr G 532, .int x] (V) (MAct V s z h (cdTake x) (s 0) (nxTake s (nt x))) := by
  refine Ct.of cf_X12_take (List.forall_mem_cons.mpr ⟨rfl, List.forall_mem_cons.mpr ⟨rfl, fun _ h => absurd h List.not_mem_nil⟩⟩) (Nat.le_of_ble_eq_true rfl) (l0 := [some (adr G 532), some (.int x), none]) rfl (fun C hx hq => ?_)
  refine Ew.aload_n hx dX12_take_0 rfl ?_
  refine Ew.iconst hx dX12_take_1 k_iconst_0 ?_
  refine Ew.putI hx dX12_take_2 pg_RX12_31 rfl ?_
  refine Ew.iload_n hx dX12_take_5 rfl ?_
  refine Ew.iconst hx dX12_take_6 k_iconst_0 ?_
  refine Ew.iconst hx dX12_take_7 k_iconst_1 ?_
  refine Ew.callS (y' := mX12_in) hx dX12_take_8 ml_RX12_38 cf_X12_in cs_X12_in (ct_X12_in G _ _ _ _) rfl (by decide) (by decide) rfl (Nat.le_of_ble_eq_true rfl) ?_
  rintro _ V9 ⟨rfl, h9⟩; subst V9
  refine Ew.ifne_b hx (tgt := 17) dX12_take_11 rfl (fun h11 => ?_) (fun h11 => ?_)
  · have ok : cdTake x = 0 := cif_t h11
    obtain ⟨e, he, rfl⟩ : ∃ e : Nat, e < 2 ∧ x = nI e := by
      have q := h11
      rw [ie, ie, tl_0, tl_1] at q
      exact ⟨x.toInt.toNat, by omega, ofNI q.1⟩
    have en : nt (nI e) = e := nt_nI (by omega)
    rw [en] at hq
    refine Ew.aload_n hx dX12_take_17 rfl ?_
    refine Ew.callV2 (y' := mX12_act) hx dX12_take_18 ml_RX12_70 cf_X12_act cv_X12_act (ct_X12_act G _ hM.m0 hS.m0) rfl oc_19 rfl (by decide) (by decide) rfl (Nat.le_of_ble_eq_true rfl) ?_
    rintro v V2 hA; obtain rfl := hA.1; have hM2 := hA.mr hM.m0
    refine Ew.aload_n hx dX12_take_21 rfl ?_
    refine Ew.getR (533) hx dX12_take_22 fg_RX12_7 rfl rfl ?_
    refine Ew.iload_n hx dX12_take_25 rfl ?_
    refine Ew.callS (y' := mX12_slotAt) hx dX12_take_26 ml_RX12_152 cf_X12_slotAt cs_X12_slotAt (ct_X12_slotAt G V2 he) rfl (by decide) (by decide) rfl (Nat.le_of_ble_eq_true rfl) ?_
    rintro _ V9 ⟨rfl, h9⟩; subst V9
    refine Ew.iconst hx dX12_take_29 k_iconst_1 ?_
    refine Ew.iast (i := 193 + 194 * e) hx dX12_take_30 ag_20 rfl (rfl) (by omega) ?_
    refine Ew.iconst hx dX12_take_31 k_iconst_0 ?_
    refine Ew.istore_n hx dX12_take_32 (by decide) rfl ?_
    exact lp_X12_take he hA ok hx hq 193 0 rfl _ (hM2.tk0 e) (fun k hk => mup_ne _ _ _ hk)
  · have ec : cdTake x = -100001 := cif_f h11
    refine Ew.ldc hx dX12_take_14 kn_RX12_69 ?_
    refine Ew.iret hx hq dX12_take_16 rfl ?_
    rw [← ec]
    exact mact_no (fun _ _ => rfl) hM hS (by rw [ec]; decide)
set_option maxHeartbeats 4000000 in
set_option maxRecDepth 100000 in
theorem lp_X12_restore {G : GT} {C : CT} {V : Mm} {s : Sv} {e z : Nat} {h : Nat → Sv} {v : Option Value} {V2 : Mm} (he : e < 2) (hA : ActM (mup V 532 0 0) s z h v V2) (ok : cdRestore s (nI e) = 0) (hx : Cx G mX12_restore 1 C) (hq : Cq G (MAct V s z h (cdRestore s (nI e)) (nxRestore s e 0) (nxRestore s e)) C) : ∀ (n i : Nat), i + n = 193 → ∀ W : Mm, MR W (rsF s e i) → (∀ k, k ≠ 533 → W k = V2 k) → Ew G C (W) 38 [some (adr G 532), some (.int (nI e)), some (.int (nI i))] [] := by
  intro n
  induction n with
  | zero =>
    intro i hi W hR hF
    refine Ew.iload_n hx dX12_restore_38 rfl ?_
    refine Ew.sipush hx dX12_restore_39 k_sipush_193 ?_
    refine Ew.icmp_ge_t hx (tgt := 70) dX12_restore_42 rfl (nI_le (a := 193) (b := i) (by omega) (by omega)) ?_
    refine Ew.aload_n hx dX12_restore_70 rfl ?_
    refine Ew.getR (533) hx dX12_restore_71 fg_RX12_7 rfl rfl ?_
    refine Ew.iconst hx dX12_restore_74 k_iconst_0 ?_
    refine Ew.iald (i := 0) hx dX12_restore_75 ag_20 rfl (rfl) (by decide) ?_
    have e193 : i = 193 := by omega
    subst e193
    rw [hR 0 (by decide)]
    refine Ew.iret hx hq dX12_restore_76 rfl ?_
    exact mact_ok (fun _ _ => rfl) hA ok hR (fun k h1 _ => hF k h1)
  | succ n ih =>
    intro i hi W hR hF
    refine Ew.iload_n hx dX12_restore_38 rfl ?_
    refine Ew.sipush hx dX12_restore_39 k_sipush_193 ?_
    refine Ew.icmp_ge_f hx (tgt := 70) dX12_restore_42 rfl (nI_ge (a := i) (b := 193) (by omega) (by omega)) ?_
    refine Ew.aload_n hx dX12_restore_45 rfl ?_
    refine Ew.getR (533) hx dX12_restore_46 fg_RX12_7 rfl rfl ?_
    refine Ew.iload_n hx dX12_restore_49 rfl ?_
    refine Ew.aload_n hx dX12_restore_50 rfl ?_
    refine Ew.getR (533) hx dX12_restore_51 fg_RX12_7 rfl rfl ?_
    refine Ew.iload_n hx dX12_restore_54 rfl ?_
    refine Ew.callS (y' := mX12_slotAt) hx dX12_restore_55 ml_RX12_152 cf_X12_slotAt cs_X12_slotAt (ct_X12_slotAt G W he) rfl (by decide) (by decide) rfl (Nat.le_of_ble_eq_true rfl) ?_
    rintro _ V9 ⟨rfl, h9⟩; subst V9
    refine Ew.iconst hx dX12_restore_58 k_iconst_1 ?_
    refine Ew.iadd hx dX12_restore_59 ?_
    refine Ew.iload_n hx dX12_restore_60 rfl ?_
    refine Ew.iadd hx dX12_restore_61 ?_
    refine Ew.iald (i := 193 + 194 * e + 1 + i) hx dX12_restore_62 ag_20 rfl ((by rw [nI_1, nI_add])) (by omega) ?_
    rw [hR (193 + 194 * e + 1 + i) (by omega), rsF_hi _ (by omega)]
    refine Ew.iast (i := i) hx dX12_restore_63 ag_20 rfl (rfl) (by omega) ?_
    refine Ew.iinc hx dX12_restore_64 rfl (k_iinc_1 _) (by decide) rfl ?_
    refine Ew.goto hx (tgt := 38) dX12_restore_67 rfl ?_
    rw [nI_1]
    exact ih (i + 1) (by omega) _ hR.rsS (fun k hk => by rw [mup_ne _ _ _ hk]; exact hF k hk)
set_option maxHeartbeats 4000000 in
set_option maxRecDepth 100000 in
theorem ct_X12_restore (G : GT) (V : Mm) {s : Sv} {z : Nat} {h : Nat → Sv} (hM : MR V s) (hS : MS V z h) (x : Int32) : Ct G mX12_restore 1 [adr G 532, .int x] (V) (MAct V s z h (cdRestore s x) (nxRestore s (nt x) 0) (nxRestore s (nt x))) := by
  refine Ct.of cf_X12_restore (List.forall_mem_cons.mpr ⟨rfl, List.forall_mem_cons.mpr ⟨rfl, fun _ h => absurd h List.not_mem_nil⟩⟩) (Nat.le_of_ble_eq_true rfl) (l0 := [some (adr G 532), some (.int x), none]) rfl (fun C hx hq => ?_)
  refine Ew.aload_n hx dX12_restore_0 rfl ?_
  refine Ew.iconst hx dX12_restore_1 k_iconst_0 ?_
  refine Ew.putI hx dX12_restore_2 pg_RX12_31 rfl ?_
  refine Ew.iload_n hx dX12_restore_5 rfl ?_
  refine Ew.iconst hx dX12_restore_6 k_iconst_0 ?_
  refine Ew.iconst hx dX12_restore_7 k_iconst_1 ?_
  refine Ew.callS (y' := mX12_in) hx dX12_restore_8 ml_RX12_38 cf_X12_in cs_X12_in (ct_X12_in G _ _ _ _) rfl (by decide) (by decide) rfl (Nat.le_of_ble_eq_true rfl) ?_
  rintro _ V9 ⟨rfl, h9⟩; subst V9
  refine Ew.ifne_b hx (tgt := 17) dX12_restore_11 rfl (fun h11 => ?_) (fun h11 => ?_)
  · have ok : cdRestore s x = _ := cif_t h11
    obtain ⟨e, he, rfl⟩ : ∃ e : Nat, e < 2 ∧ x = nI e := by
      have q := h11
      rw [ie, ie, tl_0, tl_1] at q
      exact ⟨x.toInt.toNat, by omega, ofNI q.1⟩
    have en : nt (nI e) = e := nt_nI (by omega)
    rw [en] at hq
    rw [en] at ok
    refine Ew.aload_n hx dX12_restore_17 rfl ?_
    refine Ew.getR (533) hx dX12_restore_18 fg_RX12_7 rfl rfl ?_
    refine Ew.iload_n hx dX12_restore_21 rfl ?_
    refine Ew.callS (y' := mX12_slotAt) hx dX12_restore_22 ml_RX12_152 cf_X12_slotAt cs_X12_slotAt (ct_X12_slotAt G _ he) rfl (by decide) (by decide) rfl (Nat.le_of_ble_eq_true rfl) ?_
    rintro _ V9 ⟨rfl, h9⟩; subst V9
    refine Ew.iald (i := 193 + 194 * e) hx dX12_restore_25 ag_20 rfl (rfl) (by omega) ?_
    rw [hM.m0 _ (by omega)]
    refine Ew.if_ne hx (tgt := 32) dX12_restore_26 rfl (fun h26 => ?_) (fun h26 => ?_)
    · replace ok := ok.trans (cif_f h26)
      refine Ew.aload_n hx dX12_restore_32 rfl ?_
      refine Ew.callV2 (y' := mX12_act) hx dX12_restore_33 ml_RX12_70 cf_X12_act cv_X12_act (ct_X12_act G _ hM.m0 hS.m0) rfl oc_19 rfl (by decide) (by decide) rfl (Nat.le_of_ble_eq_true rfl) ?_
      rintro v V2 hA; obtain rfl := hA.1; have hM2 := hA.mr hM.m0
      refine Ew.iconst hx dX12_restore_36 k_iconst_0 ?_
      refine Ew.istore_n hx dX12_restore_37 (by decide) rfl ?_
      exact lp_X12_restore he hA ok hx hq 193 0 rfl _ (hM2.rs0 e) (fun k hk => rfl)
    · have ec : cdRestore s (nI e) = -100002 := ok.trans (cif_t h26)
      refine Ew.ldc hx dX12_restore_29 kn_RX12_100 ?_
      refine Ew.iret hx hq dX12_restore_31 rfl ?_
      rw [← ec]
      exact mact_no (fun _ _ => rfl) hM hS (by rw [ec]; decide)
  · have ec : cdRestore s x = -100001 := cif_f h11
    refine Ew.ldc hx dX12_restore_14 kn_RX12_69 ?_
    refine Ew.iret hx hq dX12_restore_16 rfl ?_
    rw [← ec]
    exact mact_no (fun _ _ => rfl) hM hS (by rw [ec]; decide)
/-- what undo leaves -/
def UndM (V : Mm) (s : Sv) (z : Nat) (h : Nat → Sv) : PT := fun v V9 => (∀ k, k < 532 ∨ k = 534 ∨ 537 ≤ k → V9 k = V k) ∧ (∀ i, 5 ≤ i → V9 532 i = V 532 i) ∧ ((z = 0 ∧ v = some (.int (-100002)) ∧ MR V9 s ∧ MS V9 z h) ∨ (0 < z ∧ v = some (.int (nI (z - 1))) ∧ MR V9 (h 0) ∧ MS V9 (z - 1) (fun j => h (j + 1))))
set_option maxHeartbeats 4000000 in
set_option maxRecDepth 100000 in
theorem lp_X12_undo {G : GT} {C : CT} {V : Mm} {s : Sv} {z : Nat} {h : Nat → Sv} (hS : MS V z h) (h0 : 0 < z) (hx : Cx G mX12_undo 0 C) (hq : Cq G (UndM V s z h) C) : ∀ (n i : Nat), i + n = 581 → ∀ W : Mm, (∀ m, m < i → W 533 m = h 0 m) → (∀ k, k ≠ 533 → W k = mup (mup V 532 0 0) 532 4 (nI (z - 1)) k) → Ew G C (W) 27 [some (adr G 532), some (.int (nI i))] [] := by
  intro n
  induction n with
  | zero =>
    intro i hi W hR hF
    refine Ew.iload_n hx dX12_undo_27 rfl ?_
    refine Ew.sipush hx dX12_undo_28 k_sipush_581 ?_
    refine Ew.icmp_ge_t hx (tgt := 61) dX12_undo_31 rfl (nI_le (a := 581) (b := i) (by omega) (by omega)) ?_
    refine Ew.aload_n hx dX12_undo_61 rfl ?_
    refine Ew.getI hx dX12_undo_62 fg_RX12_35 rfl ?_
    rw [hF 532 (by decide), mup_self]
    refine Ew.iret hx hq dX12_undo_65 rfl ?_
    have e581 : i = 581 := by omega
    subst e581
    have hz := hS.2.1
    refine ⟨fun k hk => by rw [hF k (by omega), mup_ne _ _ _ (by omega), mup_ne _ _ _ (by omega)], fun j hj => by rw [hF 532 (by decide), mup_oth _ _ _ _ (Or.inr (by omega)), mup_oth _ _ _ _ (Or.inr (by omega))], Or.inr ⟨h0, rfl, hR, by rw [hF 532 (by decide), mup_self], by omega, fun k hk m hm => ?_⟩⟩
    rw [hF 535 (by decide), mup_ne _ _ _ (by decide), mup_ne _ _ _ (by decide), hS.2.2 k (by omega) m hm]
    congr 1
    omega
  | succ n ih =>
    intro i hi W hR hF
    refine Ew.iload_n hx dX12_undo_27 rfl ?_
    refine Ew.sipush hx dX12_undo_28 k_sipush_581 ?_
    refine Ew.icmp_ge_f hx (tgt := 61) dX12_undo_31 rfl (nI_ge (a := i) (b := 581) (by omega) (by omega)) ?_
    refine Ew.aload_n hx dX12_undo_34 rfl ?_
    refine Ew.getR (533) hx dX12_undo_35 fg_RX12_7 rfl rfl ?_
    refine Ew.iload_n hx dX12_undo_38 rfl ?_
    refine Ew.aload_n hx dX12_undo_39 rfl ?_
    refine Ew.getR (535) hx dX12_undo_40 fg_RX12_16 rfl rfl ?_
    refine Ew.sipush hx dX12_undo_43 k_sipush_581 ?_
    refine Ew.aload_n hx dX12_undo_46 rfl ?_
    refine Ew.getI hx dX12_undo_47 fg_RX12_35 rfl ?_
    rw [hF 532 (by decide), mup_self]
    refine Ew.imul hx dX12_undo_50 ?_
    refine Ew.iload_n hx dX12_undo_51 rfl ?_
    refine Ew.iadd hx dX12_undo_52 ?_
    have hz := hS.2.1
    refine Ew.iald (i := 581 * (z - 1) + i) hx dX12_undo_53 ag_21 rfl (ix_q (by omega)) (by omega) ?_
    rw [hF 535 (by decide), mup_ne _ _ _ (by decide), mup_ne _ _ _ (by decide), hS.2.2 (z - 1) (by omega) i (by omega), Nat.sub_self]
    refine Ew.iast (i := i) hx dX12_undo_54 ag_20 rfl (rfl) (by omega) ?_
    refine Ew.iinc hx dX12_undo_55 rfl (k_iinc_1 _) (by decide) rfl ?_
    refine Ew.goto hx (tgt := 27) dX12_undo_58 rfl ?_
    rw [nI_1]
    refine ih (i + 1) (by omega) _ (fun m hm => ?_) (fun k hk => by rw [mup_ne _ _ _ hk]; exact hF k hk)
    rw [mup_same]
    by_cases q : m = i
    · subst q
      rw [upd_s]
    · rw [upd_n _ _ q]
      exact hR m (by omega)
set_option maxHeartbeats 4000000 in
set_option maxRecDepth 100000 in
theorem ct_X12_undo (G : GT) (V : Mm) {s : Sv} {z : Nat} {h : Nat → Sv} (hM : MR V s) (hS : MS V z h) : Ct G mX12_undo 0 [adr G 532] (V) (UndM V s z h) := by
  refine Ct.of cf_X12_undo (List.forall_mem_cons.mpr ⟨rfl, fun _ h => absurd h List.not_mem_nil⟩) (Nat.le_of_ble_eq_true rfl) (l0 := [some (adr G 532), none]) rfl (fun C hx hq => ?_)
  refine Ew.aload_n hx dX12_undo_0 rfl ?_
  refine Ew.iconst hx dX12_undo_1 k_iconst_0 ?_
  refine Ew.putI hx dX12_undo_2 pg_RX12_31 rfl ?_
  refine Ew.aload_n hx dX12_undo_5 rfl ?_
  refine Ew.getI hx dX12_undo_6 fg_RX12_35 rfl ?_
  rw [mup_oth _ _ _ _ (Or.inr (by decide)), hS.1]
  refine Ew.if_ne hx (tgt := 15) dX12_undo_9 rfl (fun h9 => ?_) (fun h9 => ?_)
  · have h0 : 0 < z := Nat.pos_of_ne_zero (fun q => h9 (by rw [q]; rfl))
    refine Ew.aload_n hx dX12_undo_15 rfl ?_
    refine Ew.dup hx dX12_undo_16 rfl ?_
    refine Ew.getI hx dX12_undo_17 fg_RX12_35 rfl ?_
    refine Ew.iconst hx dX12_undo_20 k_iconst_1 ?_
    rw [mup_oth _ _ _ _ (Or.inr (by decide)), hS.1]
    refine Ew.isub hx dX12_undo_21 ?_
    rw [nI_pd h0]
    refine Ew.putI hx dX12_undo_22 pg_RX12_35 rfl ?_
    refine Ew.iconst hx dX12_undo_25 k_iconst_0 ?_
    refine Ew.istore_n hx dX12_undo_26 (by decide) rfl ?_
    exact lp_X12_undo hS h0 hx hq 581 0 rfl _ (fun m hm => absurd hm (Nat.not_lt_zero m)) (fun _ _ => rfl)
  · have h0 : z = 0 := (nI_eq (a := z) (b := 0) (by have := hS.2.1; omega) (by omega)).mp h9
    refine Ew.ldc hx dX12_undo_12 kn_RX12_100 ?_
    refine Ew.iret hx hq dX12_undo_14 rfl ?_
    exact ⟨fun k hk => mup_ne _ _ _ (by omega), fun i hi => mup_oth _ _ _ _ (Or.inr (by omega)), Or.inl ⟨h0, rfl, hM.m0, hS.m0⟩⟩
