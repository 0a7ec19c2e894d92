/-- the model's text: cell 537, its length in slot 7 -/
def MT2 (V : Mm) (tx : Tx) (ln : Nat) : Prop := V 532 7 = nI ln ∧ ln ≤ 140 ∧ ∀ i, i < ln → V 537 i = tx i
def atI (tx : Tx) (ln i : Nat) : Int32 := if i < ln then tx i else -1
theorem MT2.m0 {V : Mm} {tx : Tx} {ln : Nat} (h : MT2 V tx ln) : MT2 (mup V 532 0 0) tx ln := ⟨by rw [mup_oth _ _ _ _ (Or.inr (by decide))]; exact h.1, h.2.1, fun i hi => by rw [mup_ne _ _ _ (by decide)]; exact h.2.2 i hi⟩
theorem MT2_add {V : Mm} {tx : Tx} {ln : Nat} (h : MT2 V tx ln) (hl : ln < 140) (c : Int32) : MT2 (mup (mup V 537 ln c) 532 7 (nI (ln + 1))) (upd tx ln c) (ln + 1) := by
  refine ⟨mup_self _ _ _ _, by omega, fun i hi => ?_⟩
  rw [mup_oth _ _ _ _ (Or.inl (by decide))]
  by_cases q : i = ln
  · subst q
    rw [mup_self, upd_s]
  · rw [mup_oth _ _ _ _ (Or.inr q), upd_n _ _ q]
    exact h.2.2 i (by omega)
set_option maxHeartbeats 4000000 in
set_option maxRecDepth 100000 in
theorem ct_X12_at (G : GT) (V : Mm) {tx : Tx} {ln : Nat} (hT : MT2 V tx ln) {i : Nat} (hi : i < 2 ^ 30) : Ct G mX12_at 0 [adr G 532, .int (nI i)] (V) (Ri (atI tx ln i) V) := by
  refine Ct.of cf_X12_at (List.forall_mem_cons.mpr ⟨rfl, List.forall_mem_cons.mpr ⟨rfl, fun _ h => absurd h List.not_mem_nil⟩⟩) (Nat.le_of_ble_eq_true rfl) (l0 := [some (adr G 532), some (.int (nI i))]) rfl (fun C hx hq => ?_)
  have hl := hT.2.1
  refine Ew.iload_n hx dX12_at_0 rfl ?_
  refine Ew.aload_n hx dX12_at_1 rfl ?_
  refine Ew.getI hx dX12_at_2 fg_RX12_155 rfl ?_
  rw [hT.1]
  refine Ew.icmp_ge hx (tgt := 17) dX12_at_5 rfl (fun h5 => ?_) (fun h5 => ?_)
  · have ec : atI tx ln i = -1 := if_neg (by rw [ie, tn (by omega), tn (by omega)] at h5; omega)
    refine Ew.iconst hx dX12_at_17 k_iconst_m1 ?_
    refine Ew.iret hx hq dX12_at_18 rfl ?_
    refine ⟨congrArg (fun z => some (Value.int z)) ?_, rfl⟩
    exact ec.symm
  · have hi2 : i < ln := by rw [ie, tn (by omega), tn (by omega)] at h5; omega
    have ec : atI tx ln i = tx i := if_pos hi2
    refine Ew.aload_n hx dX12_at_8 rfl ?_
    refine Ew.getR (537) hx dX12_at_9 fg_RX12_22 rfl rfl ?_
    refine Ew.iload_n hx dX12_at_12 rfl ?_
    refine Ew.iald (i := i) hx dX12_at_13 ag_23 rfl (rfl) (by omega) ?_
    rw [hT.2.2 i hi2]
    refine Ew.goto hx (tgt := 18) dX12_at_14 rfl ?_
    refine Ew.iret hx hq dX12_at_18 rfl ?_
    refine ⟨congrArg (fun z => some (Value.int z)) ?_, rfl⟩
    exact ec.symm
set_option maxHeartbeats 4000000 in
set_option maxRecDepth 100000 in
theorem ct_X12_clearText (G : GT) (V : Mm)  : Ct G mX12_clearText 0 [adr G 532] (V) (fun v V9 => v = some (.int (V 532 7)) ∧ V9 = mup (mup V 532 0 0) 532 7 0) := by
  refine Ct.of cf_X12_clearText (List.forall_mem_cons.mpr ⟨rfl, fun _ h => absurd h List.not_mem_nil⟩) (Nat.le_of_ble_eq_true rfl) (l0 := [some (adr G 532), none]) rfl (fun C hx hq => ?_)
  refine Ew.aload_n hx dX12_clearText_0 rfl ?_
  refine Ew.iconst hx dX12_clearText_1 k_iconst_0 ?_
  refine Ew.putI hx dX12_clearText_2 pg_RX12_31 rfl ?_
  refine Ew.aload_n hx dX12_clearText_5 rfl ?_
  refine Ew.getI hx dX12_clearText_6 fg_RX12_155 rfl ?_
  refine Ew.istore_n hx dX12_clearText_9 (by decide) rfl ?_
  refine Ew.aload_n hx dX12_clearText_10 rfl ?_
  refine Ew.iconst hx dX12_clearText_11 k_iconst_0 ?_
  refine Ew.putI hx dX12_clearText_12 pg_RX12_155 rfl ?_
  refine Ew.iload_n hx dX12_clearText_15 rfl ?_
  refine Ew.iret hx hq dX12_clearText_16 rfl ?_
  exact ⟨rfl, rfl⟩
