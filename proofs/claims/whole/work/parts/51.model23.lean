set_option maxHeartbeats 4000000 in
set_option maxRecDepth 100000 in
theorem ct_X12_numbersOf (G : GT) (V : Mm) {w : Nat} (hw : w < 7) : Ct G mX12_numbersOf 0 [.int (nI w)] (V) (Ri (nI (nmN w)) V) := by
  refine Ct.of cf_X12_numbersOf (List.forall_mem_cons.mpr ⟨rfl, fun _ h => absurd h List.not_mem_nil⟩) (Nat.le_of_ble_eq_true rfl) (l0 := [some (.int (nI w))]) rfl (fun C hx hq => ?_)
  refine Ew.iload_n hx dX12_numbersOf_0 rfl ?_
  refine Ew.iconst hx dX12_numbersOf_1 k_iconst_2 ?_
  refine Ew.icmp_ne hx (tgt := 9) dX12_numbersOf_2 rfl (fun h2 => ?_) (fun h2 => ?_)
  · refine Ew.iload_n hx dX12_numbersOf_9 rfl ?_
    refine Ew.if_ne hx (tgt := 17) dX12_numbersOf_10 rfl (fun h10 => ?_) (fun h10 => ?_)
    · refine Ew.iload_n hx dX12_numbersOf_17 rfl ?_
      refine Ew.iconst hx dX12_numbersOf_18 k_iconst_1 ?_
      refine Ew.icmp_eq hx (tgt := 27) dX12_numbersOf_19 rfl (fun h19 => ?_) (fun h19 => ?_)
      · refine Ew.iconst hx dX12_numbersOf_27 k_iconst_2 ?_
        refine Ew.goto hx (tgt := 32) dX12_numbersOf_28 rfl ?_
        refine Ew.iret hx hq dX12_numbersOf_32 rfl ?_
        refine ⟨congrArg (fun z => some (Value.int z)) ?_, rfl⟩
        rcases sp7 hw with rfl | rfl | rfl | rfl | rfl | rfl | rfl <;> first | rfl | exact absurd rfl (by assumption) | exact absurd (by assumption) (by decide)
      · refine Ew.iload_n hx dX12_numbersOf_22 rfl ?_
        refine Ew.iconst hx dX12_numbersOf_23 k_iconst_3 ?_
        refine Ew.icmp_ne hx (tgt := 31) dX12_numbersOf_24 rfl (fun h24 => ?_) (fun h24 => ?_)
        · refine Ew.iconst hx dX12_numbersOf_31 k_iconst_1 ?_
          refine Ew.iret hx hq dX12_numbersOf_32 rfl ?_
          refine ⟨congrArg (fun z => some (Value.int z)) ?_, rfl⟩
          rcases sp7 hw with rfl | rfl | rfl | rfl | rfl | rfl | rfl <;> first | rfl | exact absurd rfl (by assumption) | exact absurd (by assumption) (by decide)
        · refine Ew.iconst hx dX12_numbersOf_27 k_iconst_2 ?_
          refine Ew.goto hx (tgt := 32) dX12_numbersOf_28 rfl ?_
          refine Ew.iret hx hq dX12_numbersOf_32 rfl ?_
          refine ⟨congrArg (fun z => some (Value.int z)) ?_, rfl⟩
          rcases sp7 hw with rfl | rfl | rfl | rfl | rfl | rfl | rfl <;> first | rfl | exact absurd rfl (by assumption) | exact absurd (by assumption) (by decide)
    · refine Ew.iconst hx dX12_numbersOf_13 k_iconst_3 ?_
      refine Ew.goto hx (tgt := 32) dX12_numbersOf_14 rfl ?_
      refine Ew.iret hx hq dX12_numbersOf_32 rfl ?_
      refine ⟨congrArg (fun z => some (Value.int z)) ?_, rfl⟩
      rcases sp7 hw with rfl | rfl | rfl | rfl | rfl | rfl | rfl <;> first | rfl | exact absurd rfl (by assumption) | exact absurd (by assumption) (by decide)
  · refine Ew.iconst hx dX12_numbersOf_5 k_iconst_4 ?_
    refine Ew.goto hx (tgt := 32) dX12_numbersOf_6 rfl ?_
    refine Ew.iret hx hq dX12_numbersOf_32 rfl ?_
    refine ⟨congrArg (fun z => some (Value.int z)) ?_, rfl⟩
    rcases sp7 hw with rfl | rfl | rfl | rfl | rfl | rfl | rfl <;> first | rfl | exact absurd rfl (by assumption) | exact absurd (by assumption) (by decide)
