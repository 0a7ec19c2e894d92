set_option maxHeartbeats 4000000 in
set_option maxRecDepth 100000 in
theorem ct_X12_append (G : GT) (V : Mm) {tx : Tx} {ln : Nat} (hT : MT2 V tx ln) (c : Int32) : Ct G mX12_append 1 [adr G 532, .int c] (V) (fun v V9 => ((1 ≤ c ∧ c ≤ 255) ∧ v = some (.int (anAdd ln)) ∧ (∀ k, k ≠ 532 → k ≠ 537 → V9 k = V k) ∧ MT2 V9 (txA tx ln c) (lnA ln) ∧ ∀ i, i ≠ 0 → i ≠ 7 → V9 532 i = V 532 i) ∨ (¬ (1 ≤ c ∧ c ≤ 255) ∧ v = some (.int (-100001)) ∧ V9 = mup V 532 0 0)) := by
  refine Ct.of cf_X12_append (List.forall_mem_cons.mpr ⟨rfl, List.forall_mem_cons.mpr ⟨rfl, fun _ h => absurd h List.not_mem_nil⟩⟩) (Nat.le_of_ble_eq_true rfl) (l0 := [some (adr G 532), some (.int c)]) rfl (fun C hx hq => ?_)
  have hl := hT.2.1
  refine Ew.aload_n hx dX12_append_0 rfl ?_
  refine Ew.iconst hx dX12_append_1 k_iconst_0 ?_
  refine Ew.putI hx dX12_append_2 pg_RX12_31 rfl ?_
  refine Ew.iload_n hx dX12_append_5 rfl ?_
  refine Ew.iconst hx dX12_append_6 k_iconst_1 ?_
  refine Ew.sipush hx dX12_append_7 k_sipush_255 ?_
  refine Ew.callS (y' := mX12_in) hx dX12_append_10 ml_RX12_38 cf_X12_in cs_X12_in (ct_X12_in G _ _ _ _) rfl (by decide) (by decide) rfl (Nat.le_of_ble_eq_true rfl) ?_
  rintro _ V9 ⟨rfl, h9⟩; subst V9
  refine Ew.ifne_b hx (tgt := 19) dX12_append_13 rfl (fun h13 => ?_) (fun h13 => ?_)
  · refine Ew.aload_n hx dX12_append_19 rfl ?_
    refine Ew.getI hx dX12_append_20 fg_RX12_155 rfl ?_
    refine Ew.sipush hx dX12_append_23 k_sipush_140 ?_
    rw [hT.m0.1]
    refine Ew.icmp_ne hx (tgt := 32) dX12_append_26 rfl (fun h26 => ?_) (fun h26 => ?_)
    · have h7b : ln < 140 := by rw [iq, tn (by omega), tl_140] at h26; omega
      refine Ew.aload_n hx dX12_append_32 rfl ?_
      refine Ew.getR (537) hx dX12_append_33 fg_RX12_22 rfl rfl ?_
      refine Ew.aload_n hx dX12_append_36 rfl ?_
      refine Ew.getI hx dX12_append_37 fg_RX12_155 rfl ?_
      refine Ew.iload_n hx dX12_append_40 rfl ?_
      refine Ew.iast (i := ln) hx dX12_append_41 ag_23 rfl (hT.m0.1) (by omega) ?_
      refine Ew.aload_n hx dX12_append_42 rfl ?_
      refine Ew.dup hx dX12_append_43 rfl ?_
      refine Ew.getI hx dX12_append_44 fg_RX12_155 rfl ?_
      refine Ew.iconst hx dX12_append_47 k_iconst_1 ?_
      refine Ew.iadd hx dX12_append_48 ?_
      rw [mup_oth _ _ _ _ (Or.inl (by decide)), hT.m0.1, nI_1]
      refine Ew.putI hx dX12_append_49 pg_RX12_155 rfl ?_
      refine Ew.aload_n hx dX12_append_52 rfl ?_
      refine Ew.getI hx dX12_append_53 fg_RX12_155 rfl ?_
      refine Ew.iret hx hq dX12_append_56 rfl ?_
      rw [mup_self]
      refine Or.inl ⟨h13, ?_, fun k h1 h2 => by rw [mup_ne _ _ _ h1, mup_ne _ _ _ h2, mup_ne _ _ _ h1], ?_, fun i h1 h2 => by rw [mup_oth _ _ _ _ (Or.inr h2), mup_oth _ _ _ _ (Or.inl (by decide)), mup_oth _ _ _ _ (Or.inr h1)]⟩
      · unfold anAdd; rw [if_pos h7b]
      · unfold txA lnA; rw [if_pos h7b, if_pos h7b]; exact MT2_add hT.m0 h7b c
    · have h7b : ¬ ln < 140 := by rw [iq, tn (by omega), tl_140] at h26; omega
      refine Ew.ldc hx dX12_append_29 kn_RX12_79 ?_
      refine Ew.iret hx hq dX12_append_31 rfl ?_
      refine Or.inl ⟨h13, ?_, fun k h1 h2 => mup_ne _ _ _ h1, ?_, fun i h1 h2 => mup_oth _ _ _ _ (Or.inr h1)⟩
      · unfold anAdd; rw [if_neg h7b]
      · unfold txA lnA; rw [if_neg h7b, if_neg h7b]; exact hT.m0
  · refine Ew.ldc hx dX12_append_16 kn_RX12_69 ?_
    refine Ew.iret hx hq dX12_append_18 rfl ?_
    exact Or.inr ⟨h13, rfl, rfl⟩
