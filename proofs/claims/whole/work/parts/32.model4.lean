def fV (V : Mm) (s : Sv) (i : Nat) : Mm := rs V 536 (fun j => if tN s ≤ j ∧ j < i then FC s (j - tN s) else V 536 j)
theorem fV_o (V : Mm) (s : Sv) (i : Nat) {k : Nat} (h : k ≠ 536) : fV V s i k = V k := rs_ne _ _ h
theorem fV_at (V : Mm) (s : Sv) {i j : Nat} (h : tN s ≤ j ∧ j < i) : fV V s i 536 j = FC s (j - tN s) := by
  unfold fV
  rw [rs_same]
  exact if_pos h
theorem fV_1 (V : Mm) (s : Sv) : mup V 536 (tN s) (s 1) = fV V s (tN s + 1) := by
  unfold fV
  rw [mup_rs]
  congr 1
  funext j
  by_cases h : j = tN s
  · subst h
    rw [upd_s, if_pos (by omega), Nat.sub_self]
    rfl
  · rw [upd_n _ _ h, if_neg (by omega)]
theorem fV_s (V : Mm) (s : Sv) {i : Nat} (h : tN s < i) (hi : i < 182) : mup (fV V s i) 536 i (hld (FC s (i - 1 - tN s) + s (11 + (i - 1) / 7)) 5000) = fV V s (i + 1) := by
  unfold fV
  rw [mup_rs, rs_rs, rs_same]
  congr 1
  funext j
  by_cases q : j = i
  · subst q
    rw [upd_s, if_pos (by omega)]
    have e : j - tN s = (j - 1 - tN s) + 1 := by omega
    rw [e]
    unfold FC
    show _ = bnd (fct (s 1) (fun w => s (11 + w)) (tN s) (j - 1 - tN s) + rtd (fun w => s (11 + w)) (tN s + (j - 1 - tN s)))
    rw [show tN s + (j - 1 - tN s) = j - 1 by omega, show rtd (fun w => s (11 + w)) (j - 1) = s (11 + (j - 1) / 7) from if_pos (by omega)]
  · rw [upd_n _ _ q]
    by_cases q2 : tN s ≤ j ∧ j < i
    · rw [if_pos q2, if_pos (by omega)]
    · rw [if_neg q2, if_neg (by omega)]
theorem MR.fV {V : Mm} {s : Sv} (h : MR V s) (i : Nat) : MR (_root_.Jvm.Pilot.@@N@@.fV V s i) s := h.fr (fV_o _ _ _ (by decide))
theorem dv7 {i : Nat} (h : i < 182) : nI i / 7 = nI (i / 7) := (show ∀ i, i < 182 → nI i / 7 = nI (i / 7) by decide +kernel) i h
set_option maxHeartbeats 4000000 in
set_option maxRecDepth 100000 in
theorem lp_X12_fore {G : GT} {C : CT} {V : Mm} {s : Sv} {B : Int} (hM : MR V s) (hW : WF s B) (hx : Cx G mX12_foresee 1 C) (hq : Cq G (Rv (fV V s 182)) C) : ∀ (n i : Nat), i + n = 182 → tN s < i → Ew G C (fV V s i) 26 [some (adr G 532), some (.int (nI i))] [] := by
  intro n
  induction n with
  | zero =>
    intro i hi ht
    refine Ew.iload_n hx dX12_foresee_26 rfl ?_
    refine Ew.sipush hx dX12_foresee_27 k_sipush_181 ?_
    refine Ew.icmp_gt_t hx (tgt := 74) dX12_foresee_30 rfl (nI_lt (a := 181) (b := i) (by omega) (by omega)) ?_
    refine Ew.vret hx hq dX12_foresee_74 rfl ?_
    have e : i = 182 := by omega
    rw [e]
    exact ⟨rfl, rfl⟩
  | succ n ih =>
    intro i hi ht
    refine Ew.iload_n hx dX12_foresee_26 rfl ?_
    refine Ew.sipush hx dX12_foresee_27 k_sipush_181 ?_
    refine Ew.icmp_gt_f hx (tgt := 74) dX12_foresee_30 rfl (nI_nlt (a := 181) (b := i) (by omega) (by omega)) ?_
    refine Ew.aload_n hx dX12_foresee_33 rfl ?_
    refine Ew.getR (536) hx dX12_foresee_34 fg_RX12_19 rfl rfl ?_
    refine Ew.iload_n hx dX12_foresee_37 rfl ?_
    refine Ew.aload_n hx dX12_foresee_38 rfl ?_
    refine Ew.getR (536) hx dX12_foresee_39 fg_RX12_19 rfl rfl ?_
    refine Ew.iload_n hx dX12_foresee_42 rfl ?_
    refine Ew.iconst hx dX12_foresee_43 k_iconst_1 ?_
    refine Ew.isub hx dX12_foresee_44 ?_
    rw [nI_pd (by omega)]
    refine Ew.iald (i := i - 1) hx dX12_foresee_45 ag_22 rfl (rfl) (by omega) ?_
    rw [fV_at V s (by omega)]
    refine Ew.aload_n hx dX12_foresee_46 rfl ?_
    refine Ew.getR (533) hx dX12_foresee_47 fg_RX12_7 rfl rfl ?_
    refine Ew.bipush hx dX12_foresee_50 k_bipush_11 ?_
    refine Ew.iload_n hx dX12_foresee_52 rfl ?_
    refine Ew.iconst hx dX12_foresee_53 k_iconst_1 ?_
    refine Ew.isub hx dX12_foresee_54 ?_
    refine Ew.bipush hx dX12_foresee_55 k_bipush_7 ?_
    rw [nI_pd (by omega)]
    refine Ew.idiv hx dX12_foresee_57 (by decide) ?_
    rw [dv7 (by omega)]
    refine Ew.iadd hx dX12_foresee_58 ?_
    refine Ew.iald (i := 11 + (i - 1) / 7) hx dX12_foresee_59 ag_20 rfl (nI_add 11 _) (by omega) ?_
    rw [fV_o V s i (by decide), hM _ (by omega)]
    refine Ew.iadd hx dX12_foresee_60 ?_
    refine Ew.sipush hx dX12_foresee_61 k_sipush_5000 ?_
    refine Ew.callS (y' := mX12_held) hx dX12_foresee_64 ml_RX12_46 cf_X12_held cs_X12_held (ct_X12_held G _ _ _) rfl (by decide) (by decide) rfl (Nat.le_of_ble_eq_true rfl) ?_
    rintro _ V9 ⟨rfl, h9⟩; subst V9
    refine Ew.iast (i := i) hx dX12_foresee_67 ag_22 rfl (rfl) (by omega) ?_
    refine Ew.iinc hx dX12_foresee_68 rfl (k_iinc_1 _) (by decide) rfl ?_
    refine Ew.goto hx (tgt := 26) dX12_foresee_71 rfl ?_
    rw [fV_s V s (by omega) (by omega), nI_1]
    exact ih (i + 1) (by omega) (by omega)
set_option maxHeartbeats 4000000 in
set_option maxRecDepth 100000 in
theorem ct_X12_foresee (G : GT) (V : Mm) {s : Sv} {B : Int} (hM : MR V s) (hW : WF s B) : Ct G mX12_foresee 1 [adr G 532] (V) (Rv (fV V s 182)) := by
  refine Ct.of cf_X12_foresee (List.forall_mem_cons.mpr ⟨rfl, fun _ h => absurd h List.not_mem_nil⟩) (Nat.le_of_ble_eq_true rfl) (l0 := [some (adr G 532), none]) rfl (fun C hx hq => ?_)
  have ht := hW.t
  refine Ew.aload_n hx dX12_foresee_0 rfl ?_
  refine Ew.getR (536) hx dX12_foresee_1 fg_RX12_19 rfl rfl ?_
  refine Ew.aload_n hx dX12_foresee_4 rfl ?_
  refine Ew.getR (533) hx dX12_foresee_5 fg_RX12_7 rfl rfl ?_
  refine Ew.iconst hx dX12_foresee_8 k_iconst_0 ?_
  refine Ew.iald (i := 0) hx dX12_foresee_9 ag_20 rfl (rfl) (by decide) ?_
  rw [hM 0 (by decide)]
  refine Ew.aload_n hx dX12_foresee_10 rfl ?_
  refine Ew.getR (533) hx dX12_foresee_11 fg_RX12_7 rfl rfl ?_
  refine Ew.iconst hx dX12_foresee_14 k_iconst_1 ?_
  refine Ew.iald (i := 1) hx dX12_foresee_15 ag_20 rfl (rfl) (by decide) ?_
  rw [hM 1 (by decide)]
  refine Ew.iast (i := tN s) hx dX12_foresee_16 ag_22 rfl (ht.1) (by omega) ?_
  rw [fV_1]
  refine Ew.aload_n hx dX12_foresee_17 rfl ?_
  refine Ew.getR (533) hx dX12_foresee_18 fg_RX12_7 rfl rfl ?_
  refine Ew.iconst hx dX12_foresee_21 k_iconst_0 ?_
  refine Ew.iald (i := 0) hx dX12_foresee_22 ag_20 rfl (rfl) (by decide) ?_
  rw [fV_o _ _ _ (by decide), hM 0 (by decide), ht.1]
  refine Ew.iconst hx dX12_foresee_23 k_iconst_1 ?_
  refine Ew.iadd hx dX12_foresee_24 ?_
  rw [nI_1]
  refine Ew.istore_n hx dX12_foresee_25 (by decide) rfl ?_
  exact lp_X12_fore hM hW hx hq (182 - (tN s + 1)) (tN s + 1) (by omega) (by omega)
