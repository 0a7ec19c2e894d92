noncomputable def pTo (s : Sv) (x : Int32) (n : Nat) : Nat := cntN (fun p => (x = -1 ∨ pf s p 0 = x) ∧ 0 < dtc s p) n
theorem pTo_m1 (s : Sv) (n : Nat) : pTo s (-1) n = cDt s n := cntN_c n (fun _ _ => ⟨fun q => q.2, fun q => ⟨Or.inl rfl, q⟩⟩)
theorem nI_m1 {r : Nat} (h : r < 2 ^ 31) : ¬ nI r = -1 := fun q => by rw [iq, tn h, tl_m1] at q; omega
theorem pTo_r (s : Sv) {r : Nat} (h : r < 2 ^ 31) (n : Nat) : pTo s (nI r) n = cTo s (nI r) n := cntN_c n (fun _ _ => ⟨fun q => ⟨q.1.resolve_left (nI_m1 h), q.2⟩, fun q => ⟨Or.inr q.1, q.2⟩⟩)
theorem cOx_m1 (s : Sv) (x : Int32) (D : Nat) {n : Nat} (h : n ≤ 12) : cOx s (-1) x D n = cOn s x D n := cntN_c n (fun i hi => ⟨fun q => q.2, fun q => ⟨nI_m1 (by omega), q⟩⟩)
theorem ix_c {n : Nat} (h : n ≤ 13) (h1 : 8 ≤ n) : 4 + nI n - 8 = nI (4 + (n - 8)) := (show ∀ n, n ≤ 13 → 8 ≤ n → 4 + nI n - 8 = nI (4 + (n - 8)) by decide) n h h1
theorem sp8 (w : Int32) : w = 0 ∨ w = 1 ∨ w = 2 ∨ w = 3 ∨ w = 4 ∨ w = 5 ∨ w = 6 ∨ w = 7 ∨ (w.toInt < 0 ∨ 7 < w.toInt) := by
  simp only [iq, tl_0, tl_1, tl_2, tl_3, tl_4, tl_5, tl_6, tl_7]
  omega
theorem sp35 {w : Int32} (h : 0 ≤ w ∧ w ≤ 5) : w = 3 ∨ w = 4 ∨ w = 5 ∨ (0 ≤ w.toInt ∧ w.toInt < 3) := by
  rw [ie, ie, tl_0, tl_5] at h
  simp only [iq, tl_3, tl_4, tl_5]
  omega
set_option maxHeartbeats 4000000 in
set_option maxRecDepth 100000 in
theorem lp_X12_pat {G : GT} {C : CT} {V : Mm} {s : Sv} {B : Int} (hM : MR V s) (hW : WF s B) (x : Int32) (hx : Cx G mX12_permitsAt 3 C) (hq : Cq G (Ri (nI (pTo s x (npN s))) V) C) : ∀ (n i : Nat), i + n = npN s → Ew G C (V) 4 [some (adr G 532), some (.int x), some (.int (nI (pTo s x i))), some (.int (nI i))] [] := by
  intro n
  induction n with
  | zero =>
    intro i hi
    refine Ew.iload_n hx dX12_permitsAt_4 rfl ?_
    refine Ew.aload_n hx dX12_permitsAt_5 rfl ?_
    refine Ew.getR (533) hx dX12_permitsAt_6 fg_RX12_7 rfl rfl ?_
    refine Ew.iconst hx dX12_permitsAt_9 k_iconst_3 ?_
    refine Ew.iald (i := 3) hx dX12_permitsAt_10 ag_20 rfl (rfl) (by decide) ?_
    have hnp := hW.np
    rw [hM 3 (by decide), hnp.1]
    refine Ew.icmp_ge_t hx (tgt := 51) dX12_permitsAt_11 rfl (nI_le (by omega) (by omega)) ?_
    refine Ew.iload_n hx dX12_permitsAt_51 rfl ?_
    refine Ew.iret hx hq dX12_permitsAt_52 rfl ?_
    refine ⟨congrArg (fun z => some (Value.int z)) ?_, rfl⟩
    rw [show i = npN s by omega]
  | succ n ih =>
    intro i hi
    refine Ew.iload_n hx dX12_permitsAt_4 rfl ?_
    refine Ew.aload_n hx dX12_permitsAt_5 rfl ?_
    refine Ew.getR (533) hx dX12_permitsAt_6 fg_RX12_7 rfl rfl ?_
    refine Ew.iconst hx dX12_permitsAt_9 k_iconst_3 ?_
    refine Ew.iald (i := 3) hx dX12_permitsAt_10 ag_20 rfl (rfl) (by decide) ?_
    have hnp := hW.np
    rw [hM 3 (by decide), hnp.1]
    refine Ew.icmp_ge_f hx (tgt := 51) dX12_permitsAt_11 rfl (nI_ge (by omega) (by omega)) ?_
    refine Ew.iload_n hx dX12_permitsAt_14 rfl ?_
    refine Ew.iload_n hx dX12_permitsAt_15 rfl ?_
    refine Ew.iconst hx dX12_permitsAt_16 k_iconst_m1 ?_
    refine Ew.icmp_eq hx (tgt := 30) dX12_permitsAt_17 rfl (fun h17 => ?_) (fun h17 => ?_)
    · have hpx : x = -1 ∨ pf s i 0 = x := Or.inl h17
      refine Ew.aload_n hx dX12_permitsAt_30 rfl ?_
      refine Ew.iload_n hx dX12_permitsAt_31 rfl ?_
      refine Ew.callV2 (y' := mX12_daysToCome) hx dX12_permitsAt_32 ml_RX12_115 cf_X12_daysToCome cv_X12_daysToCome (ct_X12_daysToCome G V hM hW (p := i) (by omega)) rfl oc_19 rfl (by decide) (by decide) rfl (Nat.le_of_ble_eq_true rfl) ?_
      rintro _ V9 ⟨rfl, h9⟩; subst V9
      refine Ew.if_le hx (tgt := 42) dX12_permitsAt_35 rfl (fun h35 => ?_) (fun h35 => ?_)
      · have hc : nI (pTo s x i) + 0 = nI (pTo s x (i + 1)) := by unfold pTo; rw [cntN_f (P := fun p => (x = -1 ∨ pf s p 0 = x) ∧ 0 < dtc s p) (fun z => by have z2 := z.2; rw [il] at z2; rw [ie] at h35; omega)]; exact Int32.add_zero _
        refine Ew.iconst hx dX12_permitsAt_42 k_iconst_0 ?_
        refine Ew.iadd hx dX12_permitsAt_43 ?_
        rw [hc]
        refine Ew.istore_n hx dX12_permitsAt_44 (by decide) rfl ?_
        refine Ew.iinc hx dX12_permitsAt_45 rfl (k_iinc_1 _) (by decide) rfl ?_
        refine Ew.goto hx (tgt := 4) dX12_permitsAt_48 rfl ?_
        rw [nI_1]
        exact ih (i + 1) (by omega)
      · have hc : nI (pTo s x i) + 1 = nI (pTo s x (i + 1)) := by unfold pTo; rw [cntN_t (P := fun p => (x = -1 ∨ pf s p 0 = x) ∧ 0 < dtc s p) (⟨hpx, by rw [il]; rw [ie] at h35; omega⟩), nI_succ]
        refine Ew.iconst hx dX12_permitsAt_38 k_iconst_1 ?_
        refine Ew.goto hx (tgt := 43) dX12_permitsAt_39 rfl ?_
        refine Ew.iadd hx dX12_permitsAt_43 ?_
        rw [hc]
        refine Ew.istore_n hx dX12_permitsAt_44 (by decide) rfl ?_
        refine Ew.iinc hx dX12_permitsAt_45 rfl (k_iinc_1 _) (by decide) rfl ?_
        refine Ew.goto hx (tgt := 4) dX12_permitsAt_48 rfl ?_
        rw [nI_1]
        exact ih (i + 1) (by omega)
    · refine Ew.aload_n hx dX12_permitsAt_20 rfl ?_
      refine Ew.iload_n hx dX12_permitsAt_21 rfl ?_
      refine Ew.iconst hx dX12_permitsAt_22 k_iconst_0 ?_
      refine Ew.callV2 (y' := mX12_of) hx dX12_permitsAt_23 ml_RX12_53 cf_X12_of cv_X12_of (ct_X12_of G V (p := i) (by omega) (j := 0) (by decide)) rfl oc_19 rfl (by decide) (by decide) rfl (Nat.le_of_ble_eq_true rfl) ?_
      rintro _ V9 ⟨rfl, h9⟩; subst V9
      rw [hM _ (by omega)]
      refine Ew.iload_n hx dX12_permitsAt_26 rfl ?_
      refine Ew.icmp_ne hx (tgt := 42) dX12_permitsAt_27 rfl (fun h27 => ?_) (fun h27 => ?_)
      · have hc : nI (pTo s x i) + 0 = nI (pTo s x (i + 1)) := by unfold pTo; rw [cntN_f (P := fun p => (x = -1 ∨ pf s p 0 = x) ∧ 0 < dtc s p) (fun z => z.1.elim h17 h27)]; exact Int32.add_zero _
        refine Ew.iconst hx dX12_permitsAt_42 k_iconst_0 ?_
        refine Ew.iadd hx dX12_permitsAt_43 ?_
        rw [hc]
        refine Ew.istore_n hx dX12_permitsAt_44 (by decide) rfl ?_
        refine Ew.iinc hx dX12_permitsAt_45 rfl (k_iinc_1 _) (by decide) rfl ?_
        refine Ew.goto hx (tgt := 4) dX12_permitsAt_48 rfl ?_
        rw [nI_1]
        exact ih (i + 1) (by omega)
      · have hpx : x = -1 ∨ pf s i 0 = x := Or.inr h27
        refine Ew.aload_n hx dX12_permitsAt_30 rfl ?_
        refine Ew.iload_n hx dX12_permitsAt_31 rfl ?_
        refine Ew.callV2 (y' := mX12_daysToCome) hx dX12_permitsAt_32 ml_RX12_115 cf_X12_daysToCome cv_X12_daysToCome (ct_X12_daysToCome G V hM hW (p := i) (by omega)) rfl oc_19 rfl (by decide) (by decide) rfl (Nat.le_of_ble_eq_true rfl) ?_
        rintro _ V9 ⟨rfl, h9⟩; subst V9
        refine Ew.if_le hx (tgt := 42) dX12_permitsAt_35 rfl (fun h35 => ?_) (fun h35 => ?_)
        · have hc : nI (pTo s x i) + 0 = nI (pTo s x (i + 1)) := by unfold pTo; rw [cntN_f (P := fun p => (x = -1 ∨ pf s p 0 = x) ∧ 0 < dtc s p) (fun z => by have z2 := z.2; rw [il] at z2; rw [ie] at h35; omega)]; exact Int32.add_zero _
          refine Ew.iconst hx dX12_permitsAt_42 k_iconst_0 ?_
          refine Ew.iadd hx dX12_permitsAt_43 ?_
          rw [hc]
          refine Ew.istore_n hx dX12_permitsAt_44 (by decide) rfl ?_
          refine Ew.iinc hx dX12_permitsAt_45 rfl (k_iinc_1 _) (by decide) rfl ?_
          refine Ew.goto hx (tgt := 4) dX12_permitsAt_48 rfl ?_
          rw [nI_1]
          exact ih (i + 1) (by omega)
        · have hc : nI (pTo s x i) + 1 = nI (pTo s x (i + 1)) := by unfold pTo; rw [cntN_t (P := fun p => (x = -1 ∨ pf s p 0 = x) ∧ 0 < dtc s p) (⟨hpx, by rw [il]; rw [ie] at h35; omega⟩), nI_succ]
          refine Ew.iconst hx dX12_permitsAt_38 k_iconst_1 ?_
          refine Ew.goto hx (tgt := 43) dX12_permitsAt_39 rfl ?_
          refine Ew.iadd hx dX12_permitsAt_43 ?_
          rw [hc]
          refine Ew.istore_n hx dX12_permitsAt_44 (by decide) rfl ?_
          refine Ew.iinc hx dX12_permitsAt_45 rfl (k_iinc_1 _) (by decide) rfl ?_
          refine Ew.goto hx (tgt := 4) dX12_permitsAt_48 rfl ?_
          rw [nI_1]
          exact ih (i + 1) (by omega)
set_option maxHeartbeats 4000000 in
set_option maxRecDepth 100000 in
theorem ct_X12_permitsAt (G : GT) (V : Mm) {s : Sv} {B : Int} (hM : MR V s) (hW : WF s B) (x : Int32) : Ct G mX12_permitsAt 3 [adr G 532, .int x] (V) (Ri (nI (pTo s x (npN s))) V) := by
  refine Ct.of cf_X12_permitsAt (List.forall_mem_cons.mpr ⟨rfl, List.forall_mem_cons.mpr ⟨rfl, fun _ h => absurd h List.not_mem_nil⟩⟩) (Nat.le_of_ble_eq_true rfl) (l0 := [some (adr G 532), some (.int x), none, none]) rfl (fun C hx hq => ?_)
  refine Ew.iconst hx dX12_permitsAt_0 k_iconst_0 ?_
  refine Ew.istore_n hx dX12_permitsAt_1 (by decide) rfl ?_
  refine Ew.iconst hx dX12_permitsAt_2 k_iconst_0 ?_
  refine Ew.istore_n hx dX12_permitsAt_3 (by decide) rfl ?_
  exact lp_X12_pat hM hW x hx hq (npN s) 0 (by omega)
set_option maxHeartbeats 4000000 in
set_option maxRecDepth 100000 in
theorem ct_X12_count (G : GT) (V : Mm) {s : Sv} {B : Int} (hM : MR V s) (hW : WF s B) {z : Nat} {h : Nat → Sv} (hS : MS V z h) {tx : Tx} {ln : Nat} (hT : MT2 V tx ln) (w : Int32) : Ct G mX12_count 4 [adr G 532, .int w] (V) (Ri (anCount s (nI z) (nI ln) w) (mup V 532 0 0)) := by
  refine Ct.of cf_X12_count (List.forall_mem_cons.mpr ⟨rfl, List.forall_mem_cons.mpr ⟨rfl, fun _ h => absurd h List.not_mem_nil⟩⟩) (Nat.le_of_ble_eq_true rfl) (l0 := [some (adr G 532), some (.int w)]) rfl (fun C hx hq => ?_)
  refine Ew.aload_n hx dX12_count_0 rfl ?_
  refine Ew.iconst hx dX12_count_1 k_iconst_0 ?_
  refine Ew.putI hx dX12_count_2 pg_RX12_31 rfl ?_
  refine Ew.iload_n hx dX12_count_5 rfl ?_
  refine Ew.bipush hx dX12_count_6 k_bipush_8 ?_
  refine Ew.bipush hx dX12_count_8 k_bipush_13 ?_
  refine Ew.callS (y' := mX12_in) hx dX12_count_10 ml_RX12_38 cf_X12_in cs_X12_in (ct_X12_in G _ _ _ _) rfl (by decide) (by decide) rfl (Nat.le_of_ble_eq_true rfl) ?_
  rintro _ V9 ⟨rfl, h9⟩; subst V9
  refine Ew.ifeq_b hx (tgt := 28) dX12_count_13 rfl (fun h13 => ?_) (fun h13 => ?_)
  · obtain ⟨a0, a1, a2, a3, a4, a5, a6, a7⟩ := an_lit s (nI z) (nI ln)
    refine Ew.iload_n hx dX12_count_28 rfl ?_
    rcases sp8 w with rfl | rfl | rfl | rfl | rfl | rfl | rfl | rfl | hw
    · refine Ew.tswIn hx dX12_count_29 (by decide) (i := 0) (tgt := 76) rfl rfl ?_
      refine Ew.aload_n hx dX12_count_76 rfl ?_
      refine Ew.getR (533) hx dX12_count_77 fg_RX12_7 rfl rfl ?_
      refine Ew.iload_n hx dX12_count_80 rfl ?_
      refine Ew.iald (i := 0) hx dX12_count_81 ag_20 rfl (rfl) (by decide) ?_
      refine Ew.iret hx hq dX12_count_82 rfl ?_
      refine ⟨congrArg (fun z => some (Value.int z)) ?_, rfl⟩
      rw [hM.m0 _ (by decide), a0]
    · refine Ew.tswIn hx dX12_count_29 (by decide) (i := 1) (tgt := 76) rfl rfl ?_
      refine Ew.aload_n hx dX12_count_76 rfl ?_
      refine Ew.getR (533) hx dX12_count_77 fg_RX12_7 rfl rfl ?_
      refine Ew.iload_n hx dX12_count_80 rfl ?_
      refine Ew.iald (i := 1) hx dX12_count_81 ag_20 rfl (rfl) (by decide) ?_
      refine Ew.iret hx hq dX12_count_82 rfl ?_
      refine ⟨congrArg (fun z => some (Value.int z)) ?_, rfl⟩
      rw [hM.m0 _ (by decide), a1]
    · refine Ew.tswIn hx dX12_count_29 (by decide) (i := 2) (tgt := 76) rfl rfl ?_
      refine Ew.aload_n hx dX12_count_76 rfl ?_
      refine Ew.getR (533) hx dX12_count_77 fg_RX12_7 rfl rfl ?_
      refine Ew.iload_n hx dX12_count_80 rfl ?_
      refine Ew.iald (i := 2) hx dX12_count_81 ag_20 rfl (rfl) (by decide) ?_
      refine Ew.iret hx hq dX12_count_82 rfl ?_
      refine ⟨congrArg (fun z => some (Value.int z)) ?_, rfl⟩
      rw [hM.m0 _ (by decide), a2]
    · refine Ew.tswIn hx dX12_count_29 (by decide) (i := 3) (tgt := 76) rfl rfl ?_
      refine Ew.aload_n hx dX12_count_76 rfl ?_
      refine Ew.getR (533) hx dX12_count_77 fg_RX12_7 rfl rfl ?_
      refine Ew.iload_n hx dX12_count_80 rfl ?_
      refine Ew.iald (i := 3) hx dX12_count_81 ag_20 rfl (rfl) (by decide) ?_
      refine Ew.iret hx hq dX12_count_82 rfl ?_
      refine ⟨congrArg (fun z => some (Value.int z)) ?_, rfl⟩
      rw [hM.m0 _ (by decide), a3]
    · refine Ew.tswIn hx dX12_count_29 (by decide) (i := 4) (tgt := 83) rfl rfl ?_
      refine Ew.aload_n hx dX12_count_83 rfl ?_
      refine Ew.iconst hx dX12_count_84 k_iconst_m1 ?_
      refine Ew.callV2 (y' := mX12_permitsAt) hx dX12_count_85 ml_RX12_225 cf_X12_permitsAt cv_X12_permitsAt (ct_X12_permitsAt G _ hM.m0 hW (-1)) rfl oc_19 rfl (by decide) (by decide) rfl (Nat.le_of_ble_eq_true rfl) ?_
      rintro _ V9 ⟨rfl, h9⟩; subst V9
      refine Ew.iret hx hq dX12_count_88 rfl ?_
      refine ⟨congrArg (fun z => some (Value.int z)) ?_, rfl⟩
      rw [pTo_m1, a4]
    · refine Ew.tswIn hx dX12_count_29 (by decide) (i := 5) (tgt := 89) rfl rfl ?_
      refine Ew.aload_n hx dX12_count_89 rfl ?_
      refine Ew.getR (533) hx dX12_count_90 fg_RX12_7 rfl rfl ?_
      refine Ew.iconst hx dX12_count_93 k_iconst_0 ?_
      refine Ew.callS (y' := mX12_slotAt) hx dX12_count_94 ml_RX12_152 cf_X12_slotAt cs_X12_slotAt (ct_X12_slotAt G _ (e := 0) (by decide)) rfl (by decide) (by decide) rfl (Nat.le_of_ble_eq_true rfl) ?_
      rintro _ V9 ⟨rfl, h9⟩; subst V9
      refine Ew.iald (i := 193) hx dX12_count_97 ag_20 rfl (rfl) (by decide) ?_
      refine Ew.aload_n hx dX12_count_98 rfl ?_
      refine Ew.getR (533) hx dX12_count_99 fg_RX12_7 rfl rfl ?_
      refine Ew.iconst hx dX12_count_102 k_iconst_1 ?_
      refine Ew.callS (y' := mX12_slotAt) hx dX12_count_103 ml_RX12_152 cf_X12_slotAt cs_X12_slotAt (ct_X12_slotAt G _ (e := 1) (by decide)) rfl (by decide) (by decide) rfl (Nat.le_of_ble_eq_true rfl) ?_
      rintro _ V9 ⟨rfl, h9⟩; subst V9
      refine Ew.iald (i := 387) hx dX12_count_106 ag_20 rfl (rfl) (by decide) ?_
      refine Ew.iadd hx dX12_count_107 ?_
      refine Ew.iret hx hq dX12_count_108 rfl ?_
      refine ⟨congrArg (fun z => some (Value.int z)) ?_, rfl⟩
      rw [hM.m0 193 (by decide), hM.m0 387 (by decide), a5]
    · refine Ew.tswIn hx dX12_count_29 (by decide) (i := 6) (tgt := 109) rfl rfl ?_
      refine Ew.aload_n hx dX12_count_109 rfl ?_
      refine Ew.getI hx dX12_count_110 fg_RX12_35 rfl ?_
      refine Ew.iret hx hq dX12_count_113 rfl ?_
      refine ⟨congrArg (fun z => some (Value.int z)) ?_, rfl⟩
      rw [mup_oth _ _ _ _ (Or.inr (by decide)), hS.1, a6]
    · refine Ew.tswIn hx dX12_count_29 (by decide) (i := 7) (tgt := 114) rfl rfl ?_
      refine Ew.aload_n hx dX12_count_114 rfl ?_
      refine Ew.getI hx dX12_count_115 fg_RX12_155 rfl ?_
      refine Ew.iret hx hq dX12_count_118 rfl ?_
      refine ⟨congrArg (fun z => some (Value.int z)) ?_, rfl⟩
      rw [mup_oth _ _ _ _ (Or.inr (by decide)), hT.1, a7]
    · refine Ew.tswOut hx dX12_count_29 (hw) (tgt := 119) rfl ?_
      refine Ew.ldc hx dX12_count_119 kn_RX12_69 ?_
      refine Ew.iret hx hq dX12_count_121 rfl ?_
      refine ⟨congrArg (fun z => some (Value.int z)) ?_, rfl⟩
      exact (an_out (by rw [ie, ie, tl_8, tl_13] at h13; omega)).symm
  · obtain ⟨n, n1, n2, rfl⟩ : ∃ n : Nat, 8 ≤ n ∧ n ≤ 13 ∧ w = nI n := by
      have q := h13
      rw [ie, ie, tl_8, tl_13] at q
      exact ⟨w.toInt.toNat, by omega, by omega, ofNI (by omega)⟩
    have ec : anCount s (nI z) (nI ln) (nI n) = s (4 + (n - 8)) := (cif_t h13).trans (by rw [nt_nI (by omega)])
    refine Ew.aload_n hx dX12_count_16 rfl ?_
    refine Ew.getR (533) hx dX12_count_17 fg_RX12_7 rfl rfl ?_
    refine Ew.iconst hx dX12_count_20 k_iconst_4 ?_
    refine Ew.iload_n hx dX12_count_21 rfl ?_
    refine Ew.iadd hx dX12_count_22 ?_
    refine Ew.bipush hx dX12_count_23 k_bipush_8 ?_
    refine Ew.isub hx dX12_count_25 ?_
    refine Ew.iald (i := 4 + (n - 8)) hx dX12_count_26 ag_20 rfl (ix_c n2 n1) (by omega) ?_
    refine Ew.iret hx hq dX12_count_27 rfl ?_
    refine ⟨congrArg (fun z => some (Value.int z)) ?_, rfl⟩
    rw [hM.m0 _ (by omega), ec]
set_option maxHeartbeats 4000000 in
set_option maxRecDepth 100000 in
theorem ct_X12_ramp (G : GT) (V : Mm) {s : Sv} {B : Int} (hM : MR V s) (hW : WF s B) (x w : Int32) : Ct G mX12_ramp 4 [adr G 532, .int x, .int w] (V) (Ri (anRamp s x w) (mup V 532 0 0)) := by
  refine Ct.of cf_X12_ramp (List.forall_mem_cons.mpr ⟨rfl, List.forall_mem_cons.mpr ⟨rfl, List.forall_mem_cons.mpr ⟨rfl, fun _ h => absurd h List.not_mem_nil⟩⟩⟩) (Nat.le_of_ble_eq_true rfl) (l0 := [some (adr G 532), some (.int x), some (.int w)]) rfl (fun C hx hq => ?_)
  refine Ew.aload_n hx dX12_ramp_0 rfl ?_
  refine Ew.iconst hx dX12_ramp_1 k_iconst_0 ?_
  refine Ew.putI hx dX12_ramp_2 pg_RX12_31 rfl ?_
  refine Ew.aload_n hx dX12_ramp_5 rfl ?_
  refine Ew.iload_n hx dX12_ramp_6 rfl ?_
  refine Ew.callV2 (y' := mX12_isRamp) hx dX12_ramp_7 ml_RX12_86 cf_X12_isRamp cv_X12_isRamp (ct_X12_isRamp G _ hM.m0 hW x) rfl oc_19 rfl (by decide) (by decide) rfl (Nat.le_of_ble_eq_true rfl) ?_
  rintro _ V9 ⟨rfl, h9⟩; subst V9
  refine Ew.ifeq_b hx (tgt := 22) dX12_ramp_10 rfl (fun h10 => ?_) (fun h10 => ?_)
  · have ec : anRamp s x w = -100001 := cif_f h10
    refine Ew.ldc hx dX12_ramp_22 kn_RX12_69 ?_
    refine Ew.iret hx hq dX12_ramp_24 rfl ?_
    refine ⟨congrArg (fun z => some (Value.int z)) ?_, rfl⟩
    exact ec.symm
  · have ht := hW.t
    have hnp := hW.np
    have hnr := hW.nr
    obtain ⟨r, hxr, hr⟩ := hW.rix h10
    have hr4 : r < 4 := by omega
    have hxn : nt x = r := by rw [hxr, nt_nI (by omega)]
    have ok : anRamp s x w = _ := cif_t h10
    rw [hxn] at ok
    refine Ew.iload_n hx dX12_ramp_13 rfl ?_
    refine Ew.iconst hx dX12_ramp_14 k_iconst_0 ?_
    refine Ew.iconst hx dX12_ramp_15 k_iconst_5 ?_
    refine Ew.callS (y' := mX12_in) hx dX12_ramp_16 ml_RX12_38 cf_X12_in cs_X12_in (ct_X12_in G _ _ _ _) rfl (by decide) (by decide) rfl (Nat.le_of_ble_eq_true rfl) ?_
    rintro _ V9 ⟨rfl, h9⟩; subst V9
    refine Ew.ifne_b hx (tgt := 25) dX12_ramp_19 rfl (fun h19 => ?_) (fun h19 => ?_)
    · refine Ew.iload_n hx dX12_ramp_25 rfl ?_
      rcases sp35 h19 with hw | hw | hw | hw
      · refine Ew.tswIn hx dX12_ramp_26 (by rw [hw]; decide) (i := 0) (tgt := 52) rfl rfl ?_
        refine Ew.aload_n hx dX12_ramp_52 rfl ?_
        refine Ew.iload_n hx dX12_ramp_53 rfl ?_
        refine Ew.callV2 (y' := mX12_permitsAt) hx dX12_ramp_54 ml_RX12_225 cf_X12_permitsAt cv_X12_permitsAt (ct_X12_permitsAt G _ hM.m0 hW x) rfl oc_19 rfl (by decide) (by decide) rfl (Nat.le_of_ble_eq_true rfl) ?_
        rintro _ V9 ⟨rfl, h9⟩; subst V9
        refine Ew.iret hx hq dX12_ramp_57 rfl ?_
        refine ⟨congrArg (fun z => some (Value.int z)) ?_, rfl⟩
        rw [hxr, pTo_r s (by omega), ← hxr, ok, cif_f (by rw [hw]; decide), cif_t hw]
      · refine Ew.tswIn hx dX12_ramp_26 (by rw [hw]; decide) (i := 1) (tgt := 58) rfl rfl ?_
        refine Ew.aload_n hx dX12_ramp_58 rfl ?_
        refine Ew.iload_n hx dX12_ramp_59 rfl ?_
        refine Ew.aload_n hx dX12_ramp_60 rfl ?_
        refine Ew.getR (533) hx dX12_ramp_61 fg_RX12_7 rfl rfl ?_
        refine Ew.iconst hx dX12_ramp_64 k_iconst_0 ?_
        refine Ew.iald (i := 0) hx dX12_ramp_65 ag_20 rfl (rfl) (by decide) ?_
        rw [hM.m0 0 (by decide), ht.1]
        refine Ew.iconst hx dX12_ramp_66 k_iconst_m1 ?_
        refine Ew.callV2 (y' := mX12_othersOn) hx dX12_ramp_67 ml_RX12_65 cf_X12_othersOn cv_X12_othersOn (ct_X12_othersOn G _ hM.m0 hW x (-1) (tN s)) rfl oc_19 rfl (by decide) (by decide) rfl (Nat.le_of_ble_eq_true rfl) ?_
        rintro _ V9 ⟨rfl, h9⟩; subst V9
        refine Ew.iret hx hq dX12_ramp_70 rfl ?_
        refine ⟨congrArg (fun z => some (Value.int z)) ?_, rfl⟩
        rw [cOx_m1 s x (tN s) hnp.2, ok, cif_f (by rw [hw]; decide), cif_f (by rw [hw]; decide), cif_t hw]
      · refine Ew.tswIn hx dX12_ramp_26 (by rw [hw]; decide) (i := 2) (tgt := 71) rfl rfl ?_
        refine Ew.aload_n hx dX12_ramp_71 rfl ?_
        refine Ew.getR (533) hx dX12_ramp_72 fg_RX12_7 rfl rfl ?_
        refine Ew.iconst hx dX12_ramp_75 k_iconst_1 ?_
        refine Ew.iald (i := 1) hx dX12_ramp_76 ag_20 rfl (rfl) (by decide) ?_
        refine Ew.aload_n hx dX12_ramp_77 rfl ?_
        refine Ew.iload_n hx dX12_ramp_78 rfl ?_
        refine Ew.iconst hx dX12_ramp_79 k_iconst_0 ?_
        rw [hM.m0 1 (by decide)]
        rw [hxr]
        refine Ew.callV2 (y' := mX12_ofRamp) hx dX12_ramp_80 ml_RX12_50 cf_X12_ofRamp cv_X12_ofRamp (ct_X12_ofRamp G _ hr4 (j := 0) (by decide)) rfl oc_19 rfl (by decide) (by decide) rfl (Nat.le_of_ble_eq_true rfl) ?_
        rintro _ V9 ⟨rfl, h9⟩; subst V9
        rw [hM.m0 _ (by omega)]
        refine Ew.isub hx dX12_ramp_83 ?_
        refine Ew.callS (y' := mX12_draughtBy) hx dX12_ramp_84 ml_RX12_228 cf_X12_draughtBy cs_X12_draughtBy (ct_X12_draughtBy G _ (s 1) (s (37 + 3 * r + 0))) rfl (by decide) (by decide) rfl (Nat.le_of_ble_eq_true rfl) ?_
        rintro _ V9 ⟨rfl, h9⟩; subst V9
        refine Ew.iret hx hq dX12_ramp_87 rfl ?_
        refine ⟨congrArg (fun z => some (Value.int z)) ?_, rfl⟩
        show gdI (s 1) (rf s r 0) = _
        rw [ok, cif_f (by rw [hw]; decide), cif_f (by rw [hw]; decide), cif_f (by rw [hw]; decide), cif_t hw]
      · refine Ew.tswOut hx dX12_ramp_26 (Or.inl hw.2) (tgt := 88) rfl ?_
        refine Ew.aload_n hx dX12_ramp_88 rfl ?_
        refine Ew.iload_n hx dX12_ramp_89 rfl ?_
        refine Ew.iload_n hx dX12_ramp_90 rfl ?_
        have hj : nt w < 3 := by unfold nt; omega
        have ew : w = nI (nt w) := ofNI hw.1
        rw [show Value.int w = Value.int (nI (nt w)) from congrArg Value.int ew, hxr]
        refine Ew.callV2 (y' := mX12_ofRamp) hx dX12_ramp_91 ml_RX12_50 cf_X12_ofRamp cv_X12_ofRamp (ct_X12_ofRamp G _ hr4 hj) rfl oc_19 rfl (by decide) (by decide) rfl (Nat.le_of_ble_eq_true rfl) ?_
        rintro _ V9 ⟨rfl, h9⟩; subst V9
        rw [hM.m0 _ (by omega)]
        refine Ew.iret hx hq dX12_ramp_94 rfl ?_
        refine ⟨congrArg (fun z => some (Value.int z)) ?_, rfl⟩
        show rf s r (nt w) = _
        rw [ok, cif_t (by rw [ie, ie, tl_0, tl_2]; omega)]
    · have ec : anRamp s x w = -100001 := ok.trans (by rw [cif_f (fun q => h19 ⟨q.1, by have q2 := q.2; rw [ie, tl_2] at q2; rw [ie, tl_5]; omega⟩), cif_f (fun q => h19 (by rw [q]; decide)), cif_f (fun q => h19 (by rw [q]; decide)), cif_f (fun q => h19 (by rw [q]; decide))])
      refine Ew.ldc hx dX12_ramp_22 kn_RX12_69 ?_
      refine Ew.iret hx hq dX12_ramp_24 rfl ?_
      refine ⟨congrArg (fun z => some (Value.int z)) ?_, rfl⟩
      exact ec.symm
set_option maxHeartbeats 4000000 in
set_option maxRecDepth 100000 in
theorem ct_X12_permit (G : GT) (V : Mm) {s : Sv} {B : Int} (hM : MR V s) (hW : WF s B) (x w : Int32) : Ct G mX12_permit 3 [adr G 532, .int x, .int w] (V) (Ri (anPermit s x w) (mup V 532 0 0)) := by
  refine Ct.of cf_X12_permit (List.forall_mem_cons.mpr ⟨rfl, List.forall_mem_cons.mpr ⟨rfl, List.forall_mem_cons.mpr ⟨rfl, fun _ h => absurd h List.not_mem_nil⟩⟩⟩) (Nat.le_of_ble_eq_true rfl) (l0 := [some (adr G 532), some (.int x), some (.int w)]) rfl (fun C hx hq => ?_)
  refine Ew.aload_n hx dX12_permit_0 rfl ?_
  refine Ew.iconst hx dX12_permit_1 k_iconst_0 ?_
  refine Ew.putI hx dX12_permit_2 pg_RX12_31 rfl ?_
  refine Ew.aload_n hx dX12_permit_5 rfl ?_
  refine Ew.iload_n hx dX12_permit_6 rfl ?_
  refine Ew.callV2 (y' := mX12_isPermit) hx dX12_permit_7 ml_RX12_112 cf_X12_isPermit cv_X12_isPermit (ct_X12_isPermit G _ hM.m0 hW x) rfl oc_19 rfl (by decide) (by decide) rfl (Nat.le_of_ble_eq_true rfl) ?_
  rintro _ V9 ⟨rfl, h9⟩; subst V9
  refine Ew.ifeq_b hx (tgt := 23) dX12_permit_10 rfl (fun h10 => ?_) (fun h10 => ?_)
  · have ec : anPermit s x w = -100001 := cif_f h10
    refine Ew.ldc hx dX12_permit_23 kn_RX12_69 ?_
    refine Ew.iret hx hq dX12_permit_25 rfl ?_
    refine ⟨congrArg (fun z => some (Value.int z)) ?_, rfl⟩
    exact ec.symm
  · have hnp := hW.np
    obtain ⟨p, hxp, hp⟩ := hW.pix h10
    have hp12 : p < 12 := by omega
    have hxn : nt x = p := by rw [hxp, nt_nI (by omega)]
    have ok : anPermit s x w = _ := cif_t h10
    rw [hxn] at ok
    unfold prI at ok
    refine Ew.iload_n hx dX12_permit_13 rfl ?_
    refine Ew.iconst hx dX12_permit_14 k_iconst_0 ?_
    refine Ew.bipush hx dX12_permit_15 k_bipush_12 ?_
    refine Ew.callS (y' := mX12_in) hx dX12_permit_17 ml_RX12_38 cf_X12_in cs_X12_in (ct_X12_in G _ _ _ _) rfl (by decide) (by decide) rfl (Nat.le_of_ble_eq_true rfl) ?_
    rintro _ V9 ⟨rfl, h9⟩; subst V9
    refine Ew.ifne_b hx (tgt := 26) dX12_permit_20 rfl (fun h20 => ?_) (fun h20 => ?_)
    · have hw2 := h20
      rw [ie, ie, tl_0, tl_12] at hw2
      replace ok := ok.trans (if_neg (by omega))
      refine Ew.iload_n hx dX12_permit_26 rfl ?_
      refine Ew.bipush hx dX12_permit_27 k_bipush_11 ?_
      refine Ew.icmp_ne hx (tgt := 40) dX12_permit_29 rfl (fun h29 => ?_) (fun h29 => ?_)
      · replace ok := ok.trans (if_neg h29)
        refine Ew.aload_n hx dX12_permit_40 rfl ?_
        refine Ew.iload_n hx dX12_permit_41 rfl ?_
        refine Ew.iload_n hx dX12_permit_42 rfl ?_
        refine Ew.bipush hx dX12_permit_43 k_bipush_12 ?_
        refine Ew.icmp_ne hx (tgt := 53) dX12_permit_45 rfl (fun h45 => ?_) (fun h45 => ?_)
        · rw [if_neg h45] at ok
          have ew : w = nI (nt w) := ofNI hw2.1
          have hn : nt w < 12 := by
            have q : ¬ w.toInt = 12 := fun q => h45 (by rw [iq, tl_12]; exact q)
            unfold nt; omega
          rw [hxp]
          rw [show Value.int w = Value.int (nI (nt w)) from congrArg Value.int ew]
          refine Ew.iload_n hx dX12_permit_53 rfl ?_
          refine Ew.callV2 (y' := mX12_of) hx dX12_permit_54 ml_RX12_53 cf_X12_of cv_X12_of (ct_X12_of G _ hp12 hn) rfl oc_19 rfl (by decide) (by decide) rfl (Nat.le_of_ble_eq_true rfl) ?_
          rintro _ V9 ⟨rfl, h9⟩; subst V9
          rw [hM.m0 _ (by omega)]
          refine Ew.iret hx hq dX12_permit_57 rfl ?_
          refine ⟨congrArg (fun z => some (Value.int z)) ?_, rfl⟩
          first | exact ok.symm | (rw [← hxp]; exact ok.symm)
        · rw [if_pos h45] at ok
          rw [hxp]
          refine Ew.bipush hx dX12_permit_48 k_bipush_11 ?_
          refine Ew.goto hx (tgt := 54) dX12_permit_50 rfl ?_
          refine Ew.callV2 (y' := mX12_of) hx dX12_permit_54 ml_RX12_53 cf_X12_of cv_X12_of (ct_X12_of G _ hp12 (j := 11) (by decide)) rfl oc_19 rfl (by decide) (by decide) rfl (Nat.le_of_ble_eq_true rfl) ?_
          rintro _ V9 ⟨rfl, h9⟩; subst V9
          rw [hM.m0 _ (by omega)]
          refine Ew.iret hx hq dX12_permit_57 rfl ?_
          refine ⟨congrArg (fun z => some (Value.int z)) ?_, rfl⟩
          first | exact ok.symm | (rw [← hxp]; exact ok.symm)
      · replace ok := ok.trans (if_pos h29)
        refine Ew.aload_n hx dX12_permit_32 rfl ?_
        refine Ew.iload_n hx dX12_permit_33 rfl ?_
        rw [hxp]
        refine Ew.callV2 (y' := mX12_daysToCome) hx dX12_permit_34 ml_RX12_115 cf_X12_daysToCome cv_X12_daysToCome (ct_X12_daysToCome G _ hM.m0 hW hp) rfl oc_19 rfl (by decide) (by decide) rfl (Nat.le_of_ble_eq_true rfl) ?_
        rintro _ V9 ⟨rfl, h9⟩; subst V9
        refine Ew.goto hx (tgt := 57) dX12_permit_37 rfl ?_
        refine Ew.iret hx hq dX12_permit_57 rfl ?_
        refine ⟨congrArg (fun z => some (Value.int z)) ?_, rfl⟩
        first | exact ok.symm | (rw [← hxp]; exact ok.symm)
    · have ec : anPermit s x w = -100001 := ok.trans (if_pos (by rw [ie, ie, tl_0, tl_12] at h20; omega))
      refine Ew.ldc hx dX12_permit_23 kn_RX12_69 ?_
      refine Ew.iret hx hq dX12_permit_25 rfl ?_
      refine ⟨congrArg (fun z => some (Value.int z)) ?_, rfl⟩
      exact ec.symm
