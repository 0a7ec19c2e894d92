/-- the failure kept: none, or its kind, place, cause and the commands before it, on both sides -/
def FLR (V : Mm) : Prop := (V 528 2 = 0 ∧ V 532 10 = 0) ∨ (¬ V 528 2 = 0 ∧ V 532 10 = 1 ∧ V 539 0 = V 528 2 ∧ V 539 1 = V 528 3 ∧ V 539 2 = cif (V 528 2 = 1) 1 2 ∧ V 539 3 = V 528 4 ∧ V 539 4 = V 528 5)
theorem FLR.at {V : Mm} (h : FLR V) {w : Int32} (hw : 0 ≤ w ∧ w ≤ 4) : (¬ V 532 10 = 0 → V 539 (nt w) = anPart (V 528 2) (V 528 3) (V 528 4) (V 528 5) w) ∧ (V 532 10 = 0 → anPart (V 528 2) (V 528 3) (V 528 4) (V 528 5) w = -100009) := by
  rcases h with ⟨h1, h2⟩ | ⟨h1, h2, e0, e1, e2, e3, e4⟩
  · exact ⟨fun q => absurd h2 q, fun _ => cif_t h1⟩
  · refine ⟨fun _ => ?_, fun q => by rw [h2] at q; exact absurd q (by decide)⟩
    unfold anPart
    rw [cif_f h1]
    have hc : w = 0 ∨ w = 1 ∨ w = 2 ∨ w = 3 ∨ w = 4 := by
      rw [ie, ie, tl_0, tl_4] at hw
      simp only [iq, tl_0, tl_1, tl_2, tl_3, tl_4]
      omega
    rcases hc with rfl | rfl | rfl | rfl | rfl
    · rw [cif_t rfl]; exact e0
    · rw [cif_f (by decide), cif_t rfl]; exact e1
    · rw [cif_f (by decide), cif_f (by decide), cif_t rfl]; exact e2
    · rw [cif_f (by decide), cif_f (by decide), cif_f (by decide), cif_t rfl]; exact e3
    · rw [cif_f (by decide), cif_f (by decide), cif_f (by decide), cif_f (by decide)]; exact e4
set_option maxHeartbeats 4000000 in
set_option maxRecDepth 100000 in
theorem ct_X12_failure (G : GT) (V : Mm) (hL : FLR V) (w : Int32) : Ct G mX12_failure 1 [adr G 532, .int w] (V) (Ri (anFailure (V 528 2) (V 528 3) (V 528 4) (V 528 5) w) (mup V 532 0 0)) := by
  refine Ct.of cf_X12_failure (List.forall_mem_cons.mpr ⟨rfl, List.forall_mem_cons.mpr ⟨rfl, fun _ h => absurd h List.not_mem_nil⟩⟩) (Nat.le_of_ble_eq_true rfl) (l0 := [some (adr G 532), some (.int w)]) rfl (fun C hx hq => ?_)
  refine Ew.aload_n hx dX12_failure_0 rfl ?_
  refine Ew.iconst hx dX12_failure_1 k_iconst_0 ?_
  refine Ew.putI hx dX12_failure_2 pg_RX12_31 rfl ?_
  refine Ew.iload_n hx dX12_failure_5 rfl ?_
  refine Ew.iconst hx dX12_failure_6 k_iconst_0 ?_
  refine Ew.iconst hx dX12_failure_7 k_iconst_4 ?_
  refine Ew.callS (y' := mX12_in) hx dX12_failure_8 ml_RX12_38 cf_X12_in cs_X12_in (ct_X12_in G _ _ _ _) rfl (by decide) (by decide) rfl (Nat.le_of_ble_eq_true rfl) ?_
  rintro _ V9 ⟨rfl, h9⟩; subst V9
  refine Ew.ifne_b hx (tgt := 17) dX12_failure_11 rfl (fun h11 => ?_) (fun h11 => ?_)
  · have ok : anFailure (V 528 2) (V 528 3) (V 528 4) (V 528 5) w = _ := cif_t h11
    have hq2 := h11
    rw [ie, ie, tl_0, tl_4] at hq2
    have ew : w = nI (nt w) := ofNI hq2.1
    have hn : nt w < 5 := by unfold nt; omega
    have hf := hL.at h11
    refine Ew.aload_n hx dX12_failure_17 rfl ?_
    refine Ew.getI hx dX12_failure_18 fg_RX12_174 rfl ?_
    rw [mup_oth _ _ _ _ (Or.inr (by decide))]
    refine Ew.if_eq hx (tgt := 33) dX12_failure_21 rfl (fun h21 => ?_) (fun h21 => ?_)
    · have ec := ok.trans (hf.2 h21)
      refine Ew.ldc hx dX12_failure_33 kn_RX12_200 ?_
      refine Ew.iret hx hq dX12_failure_35 rfl ?_
      refine ⟨congrArg (fun z => some (Value.int z)) ?_, rfl⟩
      exact ec.symm
    · have ec := ok.trans (hf.1 h21).symm
      refine Ew.aload_n hx dX12_failure_24 rfl ?_
      refine Ew.getR (539) hx dX12_failure_25 fg_RX12_28 rfl rfl ?_
      refine Ew.iload_n hx dX12_failure_28 rfl ?_
      refine Ew.iald (i := nt w) hx dX12_failure_29 ag_24 rfl (ew) (by omega) ?_
      rw [mup_ne _ _ _ (by decide)]
      refine Ew.goto hx (tgt := 35) dX12_failure_30 rfl ?_
      refine Ew.iret hx hq dX12_failure_35 rfl ?_
      refine ⟨congrArg (fun z => some (Value.int z)) ?_, rfl⟩
      exact ec.symm
  · have ec : anFailure (V 528 2) (V 528 3) (V 528 4) (V 528 5) w = -100001 := cif_f h11
    refine Ew.ldc hx dX12_failure_14 kn_RX12_69 ?_
    refine Ew.iret hx hq dX12_failure_16 rfl ?_
    refine ⟨congrArg (fun z => some (Value.int z)) ?_, rfl⟩
    exact ec.symm
