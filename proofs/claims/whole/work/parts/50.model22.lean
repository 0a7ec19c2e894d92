set_option maxHeartbeats 4000000 in
set_option maxRecDepth 100000 in
theorem ct_X12_fail (G : GT) (V : Mm) (k p c : Int32) : Ct G mX12_fail 0 [adr G 532, .int k, .int p, .int c] (V) (fun v V9 => v = none ∧ (∀ j, j ≠ 532 → j ≠ 539 → V9 j = V j) ∧ V9 532 = upd (upd (V 532) 14 0) 10 1 ∧ V9 539 0 = k ∧ V9 539 1 = p ∧ V9 539 2 = cif (k = 1) 1 2 ∧ V9 539 3 = c ∧ V9 539 4 = V 532 15) := by
  refine Ct.of cf_X12_fail (List.forall_mem_cons.mpr ⟨rfl, List.forall_mem_cons.mpr ⟨rfl, List.forall_mem_cons.mpr ⟨rfl, List.forall_mem_cons.mpr ⟨rfl, fun _ h => absurd h List.not_mem_nil⟩⟩⟩⟩) (Nat.le_of_ble_eq_true rfl) (l0 := [some (adr G 532), some (.int k), some (.int p), some (.int c)]) rfl (fun C hx hq => ?_)
  refine Ew.aload_n hx dX12_fail_0 rfl ?_
  refine Ew.iconst hx dX12_fail_1 k_iconst_0 ?_
  refine Ew.putZ hx dX12_fail_2 pg_RX12_170 rfl (by decide) ?_
  refine Ew.aload_n hx dX12_fail_5 rfl ?_
  refine Ew.iconst hx dX12_fail_6 k_iconst_1 ?_
  refine Ew.putZ hx dX12_fail_7 pg_RX12_174 rfl (by decide) ?_
  refine Ew.aload_n hx dX12_fail_10 rfl ?_
  refine Ew.getR (539) hx dX12_fail_11 fg_RX12_28 rfl rfl ?_
  refine Ew.iconst hx dX12_fail_14 k_iconst_0 ?_
  refine Ew.iload_n hx dX12_fail_15 rfl ?_
  refine Ew.iast (i := 0) hx dX12_fail_16 ag_24 rfl (rfl) (by decide) ?_
  refine Ew.aload_n hx dX12_fail_17 rfl ?_
  refine Ew.getR (539) hx dX12_fail_18 fg_RX12_28 rfl rfl ?_
  refine Ew.iconst hx dX12_fail_21 k_iconst_1 ?_
  refine Ew.iload_n hx dX12_fail_22 rfl ?_
  refine Ew.iast (i := 1) hx dX12_fail_23 ag_24 rfl (rfl) (by decide) ?_
  refine Ew.aload_n hx dX12_fail_24 rfl ?_
  refine Ew.getR (539) hx dX12_fail_25 fg_RX12_28 rfl rfl ?_
  refine Ew.iconst hx dX12_fail_28 k_iconst_2 ?_
  refine Ew.iload_n hx dX12_fail_29 rfl ?_
  refine Ew.iconst hx dX12_fail_30 k_iconst_1 ?_
  refine Ew.icmp_ne hx (tgt := 38) dX12_fail_31 rfl (fun h31 => ?_) (fun h31 => ?_)
  · refine Ew.iconst hx dX12_fail_38 k_iconst_2 ?_
    refine Ew.iast (i := 2) hx dX12_fail_39 ag_24 rfl (rfl) (by decide) ?_
    refine Ew.aload_n hx dX12_fail_40 rfl ?_
    refine Ew.getR (539) hx dX12_fail_41 fg_RX12_28 rfl rfl ?_
    refine Ew.iconst hx dX12_fail_44 k_iconst_3 ?_
    refine Ew.iload_n hx dX12_fail_45 rfl ?_
    refine Ew.iast (i := 3) hx dX12_fail_46 ag_24 rfl (rfl) (by decide) ?_
    refine Ew.aload_n hx dX12_fail_47 rfl ?_
    refine Ew.getR (539) hx dX12_fail_48 fg_RX12_28 rfl rfl ?_
    refine Ew.iconst hx dX12_fail_51 k_iconst_4 ?_
    refine Ew.aload_n hx dX12_fail_52 rfl ?_
    refine Ew.getI hx dX12_fail_53 fg_RX12_177 rfl ?_
    refine Ew.iast (i := 4) hx dX12_fail_56 ag_24 rfl (rfl) (by decide) ?_
    refine Ew.vret hx hq dX12_fail_57 rfl ?_
    refine ⟨rfl, fun j h1 h2 => ?_, ?_, ?_, ?_, ?_, ?_, ?_⟩
    · rw [mup_ne _ _ _ h2, mup_ne _ _ _ h2, mup_ne _ _ _ h2, mup_ne _ _ _ h2, mup_ne _ _ _ h2, mup_ne _ _ _ h1, mup_ne _ _ _ h1]
    · rw [mup_ne _ _ _ (by decide), mup_ne _ _ _ (by decide), mup_ne _ _ _ (by decide), mup_ne _ _ _ (by decide), mup_ne _ _ _ (by decide), mup_same, mup_same]
    · rw [mup_oth _ _ _ _ (Or.inr (by decide)), mup_oth _ _ _ _ (Or.inr (by decide)), mup_oth _ _ _ _ (Or.inr (by decide)), mup_oth _ _ _ _ (Or.inr (by decide)), mup_self]
    · rw [mup_oth _ _ _ _ (Or.inr (by decide)), mup_oth _ _ _ _ (Or.inr (by decide)), mup_oth _ _ _ _ (Or.inr (by decide)), mup_self]
    · rw [mup_oth _ _ _ _ (Or.inr (by decide)), mup_oth _ _ _ _ (Or.inr (by decide)), mup_self]
      first | exact (cif_t h31).symm | exact (cif_f h31).symm
    · rw [mup_oth _ _ _ _ (Or.inr (by decide)), mup_self]
    · rw [mup_self, mup_ne _ _ _ (by decide), mup_ne _ _ _ (by decide), mup_ne _ _ _ (by decide), mup_ne _ _ _ (by decide), mup_oth _ _ _ _ (Or.inr (by decide)), mup_oth _ _ _ _ (Or.inr (by decide))]
  · refine Ew.iconst hx dX12_fail_34 k_iconst_1 ?_
    refine Ew.goto hx (tgt := 39) dX12_fail_35 rfl ?_
    refine Ew.iast (i := 2) hx dX12_fail_39 ag_24 rfl (rfl) (by decide) ?_
    refine Ew.aload_n hx dX12_fail_40 rfl ?_
    refine Ew.getR (539) hx dX12_fail_41 fg_RX12_28 rfl rfl ?_
    refine Ew.iconst hx dX12_fail_44 k_iconst_3 ?_
    refine Ew.iload_n hx dX12_fail_45 rfl ?_
    refine Ew.iast (i := 3) hx dX12_fail_46 ag_24 rfl (rfl) (by decide) ?_
    refine Ew.aload_n hx dX12_fail_47 rfl ?_
    refine Ew.getR (539) hx dX12_fail_48 fg_RX12_28 rfl rfl ?_
    refine Ew.iconst hx dX12_fail_51 k_iconst_4 ?_
    refine Ew.aload_n hx dX12_fail_52 rfl ?_
    refine Ew.getI hx dX12_fail_53 fg_RX12_177 rfl ?_
    refine Ew.iast (i := 4) hx dX12_fail_56 ag_24 rfl (rfl) (by decide) ?_
    refine Ew.vret hx hq dX12_fail_57 rfl ?_
    refine ⟨rfl, fun j h1 h2 => ?_, ?_, ?_, ?_, ?_, ?_, ?_⟩
    · rw [mup_ne _ _ _ h2, mup_ne _ _ _ h2, mup_ne _ _ _ h2, mup_ne _ _ _ h2, mup_ne _ _ _ h2, mup_ne _ _ _ h1, mup_ne _ _ _ h1]
    · rw [mup_ne _ _ _ (by decide), mup_ne _ _ _ (by decide), mup_ne _ _ _ (by decide), mup_ne _ _ _ (by decide), mup_ne _ _ _ (by decide), mup_same, mup_same]
    · rw [mup_oth _ _ _ _ (Or.inr (by decide)), mup_oth _ _ _ _ (Or.inr (by decide)), mup_oth _ _ _ _ (Or.inr (by decide)), mup_oth _ _ _ _ (Or.inr (by decide)), mup_self]
    · rw [mup_oth _ _ _ _ (Or.inr (by decide)), mup_oth _ _ _ _ (Or.inr (by decide)), mup_oth _ _ _ _ (Or.inr (by decide)), mup_self]
    · rw [mup_oth _ _ _ _ (Or.inr (by decide)), mup_oth _ _ _ _ (Or.inr (by decide)), mup_self]
      first | exact (cif_t h31).symm | exact (cif_f h31).symm
    · rw [mup_oth _ _ _ _ (Or.inr (by decide)), mup_self]
    · rw [mup_self, mup_ne _ _ _ (by decide), mup_ne _ _ _ (by decide), mup_ne _ _ _ (by decide), mup_ne _ _ _ (by decide), mup_oth _ _ _ _ (Or.inr (by decide)), mup_oth _ _ _ _ (Or.inr (by decide))]
