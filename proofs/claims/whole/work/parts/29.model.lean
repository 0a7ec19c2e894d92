/-! the model: its season stands in cell 533 -/
def MR (V : Mm) (s : Sv) : Prop := ∀ m, m < 581 → V 533 m = s m
theorem MR.fr {V V' : Mm} {s : Sv} (h : MR V s) (e : V' 533 = V 533) : MR V' s := fun m hm => by rw [e]; exact h m hm
theorem b2i_c {P Q : Prop} (h : P ↔ Q) : b2i P = b2i Q := by
  by_cases p : P
  · rw [b2i_t p, b2i_t (h.mp p)]
  · rw [b2i_f p, b2i_f (fun q => p (h.mpr q))]
theorem ix_r {r j : Nat} (hr : r < 4) (hj : j < 3) : 37 + 3 * nI r + nI j = nI (37 + 3 * r + j) := (show ∀ r, r < 4 → ∀ j, j < 3 → 37 + 3 * nI r + nI j = nI (37 + 3 * r + j) by decide +kernel) r hr j hj
theorem ix_p {p j : Nat} (hp : p < 12) (hj : j < 12) : 49 + 12 * nI p + nI j = nI (49 + 12 * p + j) := (show ∀ p, p < 12 → ∀ j, j < 12 → 49 + 12 * nI p + nI j = nI (49 + 12 * p + j) by decide +kernel) p hp j hj
theorem sb1 {x c : Int32} {n : Nat} (hc : c = nI n) (hn : n ≤ 12) : (0 ≤ x ∧ x ≤ c - 1) ↔ (0 ≤ x ∧ x < c) := by
  have e : (c - 1).toInt = (n : Int) - 1 := by
    rw [hc, subT (by rw [tn (by omega), show (1 : Int32).toInt = 1 by decide]; omega) (by rw [tn (by omega), show (1 : Int32).toInt = 1 by decide]; omega), tn (by omega)]
    rfl
  rw [ie x, il x, e, hc, tn (by omega)]
  exact ⟨fun q => ⟨q.1, by omega⟩, fun q => ⟨q.1, by omega⟩⟩
set_option maxHeartbeats 4000000 in
set_option maxRecDepth 100000 in
theorem ct_X12_in (G : GT) (V : Mm) (x a b : Int32) : Ct G mX12_in 0 [.int x, .int a, .int b] (V) (Ri (b2i (a ≤ x ∧ x ≤ b)) V) := by
  refine Ct.of cf_X12_in (List.forall_mem_cons.mpr ⟨rfl, List.forall_mem_cons.mpr ⟨rfl, List.forall_mem_cons.mpr ⟨rfl, fun _ h => absurd h List.not_mem_nil⟩⟩⟩) (Nat.le_of_ble_eq_true rfl) (l0 := [some (.int x), some (.int a), some (.int b)]) rfl (fun C hx hq => ?_)
  refine Ew.iload_n hx dX12_in_0 rfl ?_
  refine Ew.iload_n hx dX12_in_1 rfl ?_
  refine Ew.icmp_lt hx (tgt := 14) dX12_in_2 rfl (fun h2 => ?_) (fun h2 => ?_)
  · refine Ew.iconst hx dX12_in_14 k_iconst_0 ?_
    refine Ew.bret hx hq dX12_in_15 rfl (by first | exact b2i_01 _ | decide) ?_
    refine ⟨congrArg (fun z => some (Value.int z)) ?_, rfl⟩
    first | exact (b2i_t (by simp only [il, ie] at *; omega)).symm | exact (b2i_f (by simp only [il, ie] at *; omega)).symm
  · refine Ew.iload_n hx dX12_in_5 rfl ?_
    refine Ew.iload_n hx dX12_in_6 rfl ?_
    refine Ew.icmp_gt hx (tgt := 14) dX12_in_7 rfl (fun h7 => ?_) (fun h7 => ?_)
    · refine Ew.iconst hx dX12_in_14 k_iconst_0 ?_
      refine Ew.bret hx hq dX12_in_15 rfl (by first | exact b2i_01 _ | decide) ?_
      refine ⟨congrArg (fun z => some (Value.int z)) ?_, rfl⟩
      first | exact (b2i_t (by simp only [il, ie] at *; omega)).symm | exact (b2i_f (by simp only [il, ie] at *; omega)).symm
    · refine Ew.iconst hx dX12_in_10 k_iconst_1 ?_
      refine Ew.goto hx (tgt := 15) dX12_in_11 rfl ?_
      refine Ew.bret hx hq dX12_in_15 rfl (by first | exact b2i_01 _ | decide) ?_
      refine ⟨congrArg (fun z => some (Value.int z)) ?_, rfl⟩
      first | exact (b2i_t (by simp only [il, ie] at *; omega)).symm | exact (b2i_f (by simp only [il, ie] at *; omega)).symm
set_option maxHeartbeats 4000000 in
set_option maxRecDepth 100000 in
theorem ct_X12_held (G : GT) (V : Mm) (x b : Int32) : Ct G mX12_held 0 [.int x, .int b] (V) (Ri (hld x b) V) := by
  refine Ct.of cf_X12_held (List.forall_mem_cons.mpr ⟨rfl, List.forall_mem_cons.mpr ⟨rfl, fun _ h => absurd h List.not_mem_nil⟩⟩) (Nat.le_of_ble_eq_true rfl) (l0 := [some (.int x), some (.int b)]) rfl (fun C hx hq => ?_)
  refine Ew.iload_n hx dX12_held_0 rfl ?_
  refine Ew.if_ge hx (tgt := 8) dX12_held_1 rfl (fun h1 => ?_) (fun h1 => ?_)
  · have ec : hld x b = _ := if_neg (by rw [il]; rw [ie] at h1; omega)
    refine Ew.iload_n hx dX12_held_8 rfl ?_
    refine Ew.iload_n hx dX12_held_9 rfl ?_
    refine Ew.icmp_le hx (tgt := 17) dX12_held_10 rfl (fun h10 => ?_) (fun h10 => ?_)
    · have ec2 : (if b < x then b else x) = x := if_neg (by rw [il]; rw [ie] at h10; omega)
      replace ec := ec.trans ec2
      refine Ew.iload_n hx dX12_held_17 rfl ?_
      refine Ew.iret hx hq dX12_held_18 rfl ?_
      refine ⟨congrArg (fun z => some (Value.int z)) ?_, rfl⟩
      exact ec.symm
    · have ec2 : (if b < x then b else x) = b := if_pos (by rw [il]; rw [ie] at h10; omega)
      replace ec := ec.trans ec2
      refine Ew.iload_n hx dX12_held_13 rfl ?_
      refine Ew.goto hx (tgt := 18) dX12_held_14 rfl ?_
      refine Ew.iret hx hq dX12_held_18 rfl ?_
      refine ⟨congrArg (fun z => some (Value.int z)) ?_, rfl⟩
      exact ec.symm
  · have ec : hld x b = 0 := if_pos (by rw [il]; rw [ie] at h1; omega)
    refine Ew.iconst hx dX12_held_4 k_iconst_0 ?_
    refine Ew.goto hx (tgt := 18) dX12_held_5 rfl ?_
    refine Ew.iret hx hq dX12_held_18 rfl ?_
    refine ⟨congrArg (fun z => some (Value.int z)) ?_, rfl⟩
    exact ec.symm
set_option maxHeartbeats 4000000 in
set_option maxRecDepth 100000 in
theorem ct_X12_ofRamp (G : GT) (V : Mm) {r j : Nat} (hr : r < 4) (hj : j < 3) : Ct G mX12_ofRamp 0 [adr G 532, .int (nI r), .int (nI j)] (V) (Ri (V 533 (37 + 3 * r + j)) V) := by
  refine Ct.of cf_X12_ofRamp (List.forall_mem_cons.mpr ⟨rfl, List.forall_mem_cons.mpr ⟨rfl, List.forall_mem_cons.mpr ⟨rfl, fun _ h => absurd h List.not_mem_nil⟩⟩⟩) (Nat.le_of_ble_eq_true rfl) (l0 := [some (adr G 532), some (.int (nI r)), some (.int (nI j))]) rfl (fun C hx hq => ?_)
  refine Ew.aload_n hx dX12_ofRamp_0 rfl ?_
  refine Ew.getR (533) hx dX12_ofRamp_1 fg_RX12_7 rfl rfl ?_
  refine Ew.bipush hx dX12_ofRamp_4 k_bipush_37 ?_
  refine Ew.iconst hx dX12_ofRamp_6 k_iconst_3 ?_
  refine Ew.iload_n hx dX12_ofRamp_7 rfl ?_
  refine Ew.imul hx dX12_ofRamp_8 ?_
  refine Ew.iadd hx dX12_ofRamp_9 ?_
  refine Ew.iload_n hx dX12_ofRamp_10 rfl ?_
  refine Ew.iadd hx dX12_ofRamp_11 ?_
  refine Ew.iald (i := 37 + 3 * r + j) hx dX12_ofRamp_12 ag_20 rfl (ix_r hr hj) (by omega) ?_
  refine Ew.iret hx hq dX12_ofRamp_13 rfl ?_
  exact ⟨rfl, rfl⟩
set_option maxHeartbeats 4000000 in
set_option maxRecDepth 100000 in
theorem ct_X12_of (G : GT) (V : Mm) {p j : Nat} (hp : p < 12) (hj : j < 12) : Ct G mX12_of 0 [adr G 532, .int (nI p), .int (nI j)] (V) (Ri (V 533 (49 + 12 * p + j)) V) := by
  refine Ct.of cf_X12_of (List.forall_mem_cons.mpr ⟨rfl, List.forall_mem_cons.mpr ⟨rfl, List.forall_mem_cons.mpr ⟨rfl, fun _ h => absurd h List.not_mem_nil⟩⟩⟩) (Nat.le_of_ble_eq_true rfl) (l0 := [some (adr G 532), some (.int (nI p)), some (.int (nI j))]) rfl (fun C hx hq => ?_)
  refine Ew.aload_n hx dX12_of_0 rfl ?_
  refine Ew.getR (533) hx dX12_of_1 fg_RX12_7 rfl rfl ?_
  refine Ew.bipush hx dX12_of_4 k_bipush_49 ?_
  refine Ew.bipush hx dX12_of_6 k_bipush_12 ?_
  refine Ew.iload_n hx dX12_of_8 rfl ?_
  refine Ew.imul hx dX12_of_9 ?_
  refine Ew.iadd hx dX12_of_10 ?_
  refine Ew.iload_n hx dX12_of_11 rfl ?_
  refine Ew.iadd hx dX12_of_12 ?_
  refine Ew.iald (i := 49 + 12 * p + j) hx dX12_of_13 ag_20 rfl (ix_p hp hj) (by omega) ?_
  refine Ew.iret hx hq dX12_of_14 rfl ?_
  exact ⟨rfl, rfl⟩
set_option maxHeartbeats 4000000 in
set_option maxRecDepth 100000 in
theorem ct_X12_set (G : GT) (V : Mm) {p j : Nat} (hp : p < 12) (hj : j < 12) (v : Int32) : Ct G mX12_set 0 [adr G 532, .int (nI p), .int (nI j), .int v] (V) (Rv (mup V 533 (49 + 12 * p + j) v)) := by
  refine Ct.of cf_X12_set (List.forall_mem_cons.mpr ⟨rfl, List.forall_mem_cons.mpr ⟨rfl, List.forall_mem_cons.mpr ⟨rfl, List.forall_mem_cons.mpr ⟨rfl, fun _ h => absurd h List.not_mem_nil⟩⟩⟩⟩) (Nat.le_of_ble_eq_true rfl) (l0 := [some (adr G 532), some (.int (nI p)), some (.int (nI j)), some (.int v)]) rfl (fun C hx hq => ?_)
  refine Ew.aload_n hx dX12_set_0 rfl ?_
  refine Ew.getR (533) hx dX12_set_1 fg_RX12_7 rfl rfl ?_
  refine Ew.bipush hx dX12_set_4 k_bipush_49 ?_
  refine Ew.bipush hx dX12_set_6 k_bipush_12 ?_
  refine Ew.iload_n hx dX12_set_8 rfl ?_
  refine Ew.imul hx dX12_set_9 ?_
  refine Ew.iadd hx dX12_set_10 ?_
  refine Ew.iload_n hx dX12_set_11 rfl ?_
  refine Ew.iadd hx dX12_set_12 ?_
  refine Ew.iload_n hx dX12_set_13 rfl ?_
  refine Ew.iast (i := 49 + 12 * p + j) hx dX12_set_14 ag_20 rfl (ix_p hp hj) (by omega) ?_
  refine Ew.vret hx hq dX12_set_15 rfl ?_
  exact ⟨rfl, rfl⟩
set_option maxHeartbeats 4000000 in
set_option maxRecDepth 100000 in
theorem ct_X12_grow (G : GT) (V : Mm) {p j : Nat} (hp : p < 12) (hj : j < 12) (v : Int32) : Ct G mX12_grow 0 [adr G 532, .int (nI p), .int (nI j), .int v] (V) (Rv (mup V 533 (49 + 12 * p + j) (V 533 (49 + 12 * p + j) + v))) := by
  refine Ct.of cf_X12_grow (List.forall_mem_cons.mpr ⟨rfl, List.forall_mem_cons.mpr ⟨rfl, List.forall_mem_cons.mpr ⟨rfl, List.forall_mem_cons.mpr ⟨rfl, fun _ h => absurd h List.not_mem_nil⟩⟩⟩⟩) (Nat.le_of_ble_eq_true rfl) (l0 := [some (adr G 532), some (.int (nI p)), some (.int (nI j)), some (.int v)]) rfl (fun C hx hq => ?_)
  refine Ew.aload_n hx dX12_grow_0 rfl ?_
  refine Ew.getR (533) hx dX12_grow_1 fg_RX12_7 rfl rfl ?_
  refine Ew.bipush hx dX12_grow_4 k_bipush_49 ?_
  refine Ew.bipush hx dX12_grow_6 k_bipush_12 ?_
  refine Ew.iload_n hx dX12_grow_8 rfl ?_
  refine Ew.imul hx dX12_grow_9 ?_
  refine Ew.iadd hx dX12_grow_10 ?_
  refine Ew.iload_n hx dX12_grow_11 rfl ?_
  refine Ew.iadd hx dX12_grow_12 ?_
  refine Ew.dup2 hx dX12_grow_13 rfl rfl ?_
  refine Ew.iald (i := 49 + 12 * p + j) hx dX12_grow_14 ag_20 rfl (ix_p hp hj) (by omega) ?_
  refine Ew.iload_n hx dX12_grow_15 rfl ?_
  refine Ew.iadd hx dX12_grow_16 ?_
  refine Ew.iast (i := 49 + 12 * p + j) hx dX12_grow_17 ag_20 rfl (ix_p hp hj) (by omega) ?_
  refine Ew.vret hx hq dX12_grow_18 rfl ?_
  exact ⟨rfl, rfl⟩
set_option maxHeartbeats 4000000 in
set_option maxRecDepth 100000 in
theorem ct_X12_isRamp (G : GT) (V : Mm) {s : Sv} {B : Int} (hM : MR V s) (hW : WF s B) (x : Int32) : Ct G mX12_isRamp 1 [adr G 532, .int x] (V) (Ri (b2i (0 ≤ x ∧ x < s 2)) V) := by
  refine Ct.of cf_X12_isRamp (List.forall_mem_cons.mpr ⟨rfl, List.forall_mem_cons.mpr ⟨rfl, fun _ h => absurd h List.not_mem_nil⟩⟩) (Nat.le_of_ble_eq_true rfl) (l0 := [some (adr G 532), some (.int x)]) rfl (fun C hx hq => ?_)
  refine Ew.iload_n hx dX12_isRamp_0 rfl ?_
  refine Ew.iconst hx dX12_isRamp_1 k_iconst_0 ?_
  refine Ew.aload_n hx dX12_isRamp_2 rfl ?_
  refine Ew.getR (533) hx dX12_isRamp_3 fg_RX12_7 rfl rfl ?_
  refine Ew.iconst hx dX12_isRamp_6 k_iconst_2 ?_
  refine Ew.iald (i := 2) hx dX12_isRamp_7 ag_20 rfl (rfl) (by decide) ?_
  refine Ew.iconst hx dX12_isRamp_8 k_iconst_1 ?_
  refine Ew.isub hx dX12_isRamp_9 ?_
  refine Ew.callS (y' := mX12_in) hx dX12_isRamp_10 ml_RX12_38 cf_X12_in cs_X12_in (ct_X12_in G _ _ _ _) rfl (by decide) (by decide) rfl (Nat.le_of_ble_eq_true rfl) ?_
  rintro _ V9 ⟨rfl, h9⟩; subst V9
  refine Ew.bret hx hq dX12_isRamp_13 rfl (by first | exact b2i_01 _ | decide) ?_
  refine ⟨congrArg (fun z => some (Value.int z)) ?_, rfl⟩
  rw [hM 2 (by decide)]
  exact b2i_c (sb1 hW.nr.1 (by have := hW.nr.2; omega))
set_option maxHeartbeats 4000000 in
set_option maxRecDepth 100000 in
theorem ct_X12_isPermit (G : GT) (V : Mm) {s : Sv} {B : Int} (hM : MR V s) (hW : WF s B) (x : Int32) : Ct G mX12_isPermit 1 [adr G 532, .int x] (V) (Ri (b2i (0 ≤ x ∧ x < s 3)) V) := by
  refine Ct.of cf_X12_isPermit (List.forall_mem_cons.mpr ⟨rfl, List.forall_mem_cons.mpr ⟨rfl, fun _ h => absurd h List.not_mem_nil⟩⟩) (Nat.le_of_ble_eq_true rfl) (l0 := [some (adr G 532), some (.int x)]) rfl (fun C hx hq => ?_)
  refine Ew.iload_n hx dX12_isPermit_0 rfl ?_
  refine Ew.iconst hx dX12_isPermit_1 k_iconst_0 ?_
  refine Ew.aload_n hx dX12_isPermit_2 rfl ?_
  refine Ew.getR (533) hx dX12_isPermit_3 fg_RX12_7 rfl rfl ?_
  refine Ew.iconst hx dX12_isPermit_6 k_iconst_3 ?_
  refine Ew.iald (i := 3) hx dX12_isPermit_7 ag_20 rfl (rfl) (by decide) ?_
  refine Ew.iconst hx dX12_isPermit_8 k_iconst_1 ?_
  refine Ew.isub hx dX12_isPermit_9 ?_
  refine Ew.callS (y' := mX12_in) hx dX12_isPermit_10 ml_RX12_38 cf_X12_in cs_X12_in (ct_X12_in G _ _ _ _) rfl (by decide) (by decide) rfl (Nat.le_of_ble_eq_true rfl) ?_
  rintro _ V9 ⟨rfl, h9⟩; subst V9
  refine Ew.bret hx hq dX12_isPermit_13 rfl (by first | exact b2i_01 _ | decide) ?_
  refine ⟨congrArg (fun z => some (Value.int z)) ?_, rfl⟩
  rw [hM 3 (by decide)]
  exact b2i_c (sb1 hW.np.1 (by have := hW.np.2; omega))
set_option maxHeartbeats 4000000 in
set_option maxRecDepth 100000 in
theorem ct_X12_isDraught (G : GT) (V : Mm) (x : Int32) : Ct G mX12_isDraught 1 [.int x] (V) (Ri (b2i (0 ≤ x ∧ x ≤ 300)) V) := by
  refine Ct.of cf_X12_isDraught (List.forall_mem_cons.mpr ⟨rfl, fun _ h => absurd h List.not_mem_nil⟩) (Nat.le_of_ble_eq_true rfl) (l0 := [some (.int x)]) rfl (fun C hx hq => ?_)
  refine Ew.iload_n hx dX12_isDraught_0 rfl ?_
  refine Ew.iconst hx dX12_isDraught_1 k_iconst_0 ?_
  refine Ew.sipush hx dX12_isDraught_2 k_sipush_300 ?_
  refine Ew.callS (y' := mX12_in) hx dX12_isDraught_5 ml_RX12_38 cf_X12_in cs_X12_in (ct_X12_in G _ _ _ _) rfl (by decide) (by decide) rfl (Nat.le_of_ble_eq_true rfl) ?_
  rintro _ V9 ⟨rfl, h9⟩; subst V9
  refine Ew.bret hx hq dX12_isDraught_8 rfl (by first | exact b2i_01 _ | decide) ?_
  exact ⟨rfl, rfl⟩
set_option maxHeartbeats 4000000 in
set_option maxRecDepth 100000 in
theorem ct_X12_areDays (G : GT) (V : Mm) (a b : Int32) : Ct G mX12_areDays 1 [.int a, .int b] (V) (Ri (b2i ((0 ≤ a ∧ a ≤ 181) ∧ (a ≤ b ∧ b ≤ 181))) V) := by
  refine Ct.of cf_X12_areDays (List.forall_mem_cons.mpr ⟨rfl, List.forall_mem_cons.mpr ⟨rfl, fun _ h => absurd h List.not_mem_nil⟩⟩) (Nat.le_of_ble_eq_true rfl) (l0 := [some (.int a), some (.int b)]) rfl (fun C hx hq => ?_)
  refine Ew.iload_n hx dX12_areDays_0 rfl ?_
  refine Ew.iconst hx dX12_areDays_1 k_iconst_0 ?_
  refine Ew.sipush hx dX12_areDays_2 k_sipush_181 ?_
  refine Ew.callS (y' := mX12_in) hx dX12_areDays_5 ml_RX12_38 cf_X12_in cs_X12_in (ct_X12_in G _ _ _ _) rfl (by decide) (by decide) rfl (Nat.le_of_ble_eq_true rfl) ?_
  rintro _ V9 ⟨rfl, h9⟩; subst V9
  refine Ew.ifeq_b hx (tgt := 26) dX12_areDays_8 rfl (fun h8 => ?_) (fun h8 => ?_)
  · refine Ew.iconst hx dX12_areDays_26 k_iconst_0 ?_
    refine Ew.bret hx hq dX12_areDays_27 rfl (by decide) ?_
    refine ⟨congrArg (fun z => some (Value.int z)) ?_, rfl⟩
    first | exact (b2i_t ⟨h8, h19⟩).symm | exact (b2i_f (fun q => h19 q.2)).symm | exact (b2i_f (fun q => h8 q.1)).symm
  · refine Ew.iload_n hx dX12_areDays_11 rfl ?_
    refine Ew.iload_n hx dX12_areDays_12 rfl ?_
    refine Ew.sipush hx dX12_areDays_13 k_sipush_181 ?_
    refine Ew.callS (y' := mX12_in) hx dX12_areDays_16 ml_RX12_38 cf_X12_in cs_X12_in (ct_X12_in G _ _ _ _) rfl (by decide) (by decide) rfl (Nat.le_of_ble_eq_true rfl) ?_
    rintro _ V9 ⟨rfl, h9⟩; subst V9
    refine Ew.ifeq_b hx (tgt := 26) dX12_areDays_19 rfl (fun h19 => ?_) (fun h19 => ?_)
    · refine Ew.iconst hx dX12_areDays_26 k_iconst_0 ?_
      refine Ew.bret hx hq dX12_areDays_27 rfl (by decide) ?_
      refine ⟨congrArg (fun z => some (Value.int z)) ?_, rfl⟩
      first | exact (b2i_t ⟨h8, h19⟩).symm | exact (b2i_f (fun q => h19 q.2)).symm | exact (b2i_f (fun q => h8 q.1)).symm
    · refine Ew.iconst hx dX12_areDays_22 k_iconst_1 ?_
      refine Ew.goto hx (tgt := 27) dX12_areDays_23 rfl ?_
      refine Ew.bret hx hq dX12_areDays_27 rfl (by decide) ?_
      refine ⟨congrArg (fun z => some (Value.int z)) ?_, rfl⟩
      first | exact (b2i_t ⟨h8, h19⟩).symm | exact (b2i_f (fun q => h19 q.2)).symm | exact (b2i_f (fun q => h8 q.1)).symm
set_option maxHeartbeats 4000000 in
set_option maxRecDepth 100000 in
theorem ct_X12_isShort (G : GT) (V : Mm) (a b : Int32) : Ct G mX12_isShort 2 [.int a, .int b] (V) (Ri (b2i (spanP a b)) V) := by
  refine Ct.of cf_X12_isShort (List.forall_mem_cons.mpr ⟨rfl, List.forall_mem_cons.mpr ⟨rfl, fun _ h => absurd h List.not_mem_nil⟩⟩) (Nat.le_of_ble_eq_true rfl) (l0 := [some (.int a), some (.int b)]) rfl (fun C hx hq => ?_)
  refine Ew.iload_n hx dX12_isShort_0 rfl ?_
  refine Ew.iload_n hx dX12_isShort_1 rfl ?_
  refine Ew.callS (y' := mX12_areDays) hx dX12_isShort_2 ml_RX12_42 cf_X12_areDays cs_X12_areDays (ct_X12_areDays G _ _ _) rfl (by decide) (by decide) rfl (Nat.le_of_ble_eq_true rfl) ?_
  rintro _ V9 ⟨rfl, h9⟩; subst V9
  refine Ew.ifeq_b hx (tgt := 20) dX12_isShort_5 rfl (fun h5 => ?_) (fun h5 => ?_)
  · refine Ew.iconst hx dX12_isShort_20 k_iconst_0 ?_
    refine Ew.bret hx hq dX12_isShort_21 rfl (by decide) ?_
    refine ⟨congrArg (fun z => some (Value.int z)) ?_, rfl⟩
    first | exact (b2i_t ⟨h5.1, h5.2, by rw [ie]; simp only [il, ie] at h13; omega⟩).symm | exact (b2i_f (fun q => by have q3 := q.2.2; rw [ie] at q3; simp only [il, ie] at h13; omega)).symm | exact (b2i_f (fun q => h5 ⟨q.1, q.2.1⟩)).symm
  · refine Ew.iload_n hx dX12_isShort_8 rfl ?_
    refine Ew.iload_n hx dX12_isShort_9 rfl ?_
    refine Ew.isub hx dX12_isShort_10 ?_
    refine Ew.bipush hx dX12_isShort_11 k_bipush_29 ?_
    refine Ew.icmp_gt hx (tgt := 20) dX12_isShort_13 rfl (fun h13 => ?_) (fun h13 => ?_)
    · refine Ew.iconst hx dX12_isShort_20 k_iconst_0 ?_
      refine Ew.bret hx hq dX12_isShort_21 rfl (by decide) ?_
      refine ⟨congrArg (fun z => some (Value.int z)) ?_, rfl⟩
      first | exact (b2i_t ⟨h5.1, h5.2, by rw [ie]; simp only [il, ie] at h13; omega⟩).symm | exact (b2i_f (fun q => by have q3 := q.2.2; rw [ie] at q3; simp only [il, ie] at h13; omega)).symm | exact (b2i_f (fun q => h5 ⟨q.1, q.2.1⟩)).symm
    · refine Ew.iconst hx dX12_isShort_16 k_iconst_1 ?_
      refine Ew.goto hx (tgt := 21) dX12_isShort_17 rfl ?_
      refine Ew.bret hx hq dX12_isShort_21 rfl (by decide) ?_
      refine ⟨congrArg (fun z => some (Value.int z)) ?_, rfl⟩
      first | exact (b2i_t ⟨h5.1, h5.2, by rw [ie]; simp only [il, ie] at h13; omega⟩).symm | exact (b2i_f (fun q => by have q3 := q.2.2; rw [ie] at q3; simp only [il, ie] at h13; omega)).symm | exact (b2i_f (fun q => h5 ⟨q.1, q.2.1⟩)).symm
set_option maxHeartbeats 4000000 in
set_option maxRecDepth 100000 in
theorem ct_X12_isOpen (G : GT) (V : Mm) {s : Sv} (hM : MR V s) {r : Nat} (hr : r < 4) (dr lv : Int32) : Ct G mX12_isOpen 1 [adr G 532, .int (nI r), .int dr, .int lv] (V) (Ri (b2i (opn s r dr lv)) V) := by
  refine Ct.of cf_X12_isOpen (List.forall_mem_cons.mpr ⟨rfl, List.forall_mem_cons.mpr ⟨rfl, List.forall_mem_cons.mpr ⟨rfl, List.forall_mem_cons.mpr ⟨rfl, fun _ h => absurd h List.not_mem_nil⟩⟩⟩⟩) (Nat.le_of_ble_eq_true rfl) (l0 := [some (adr G 532), some (.int (nI r)), some (.int dr), some (.int lv)]) rfl (fun C hx hq => ?_)
  refine Ew.iload_n hx dX12_isOpen_0 rfl ?_
  refine Ew.aload_n hx dX12_isOpen_1 rfl ?_
  refine Ew.iload_n hx dX12_isOpen_2 rfl ?_
  refine Ew.iconst hx dX12_isOpen_3 k_iconst_0 ?_
  refine Ew.callV2 (y' := mX12_ofRamp) hx dX12_isOpen_4 ml_RX12_50 cf_X12_ofRamp cv_X12_ofRamp (ct_X12_ofRamp G V hr (j := 0) (by decide)) rfl oc_19 rfl (by decide) (by decide) rfl (Nat.le_of_ble_eq_true rfl) ?_
  rintro _ V9 ⟨rfl, h9⟩; subst V9
  refine Ew.isub hx dX12_isOpen_7 ?_
  refine Ew.iload_n hx dX12_isOpen_8 rfl ?_
  rw [hM _ (by omega)]
  refine Ew.icmp_lt hx (tgt := 16) dX12_isOpen_9 rfl (fun h9 => ?_) (fun h9 => ?_)
  · refine Ew.iconst hx dX12_isOpen_16 k_iconst_0 ?_
    refine Ew.bret hx hq dX12_isOpen_17 rfl (by decide) ?_
    refine ⟨congrArg (fun z => some (Value.int z)) ?_, rfl⟩
    first | exact (b2i_t (show dr ≤ lv - rf s r 0 from by unfold rf; simp only [il, ie] at *; omega)).symm | exact (b2i_f (fun q => by have q2 : dr ≤ lv - rf s r 0 := q; unfold rf at q2; simp only [il, ie] at *; omega)).symm
  · refine Ew.iconst hx dX12_isOpen_12 k_iconst_1 ?_
    refine Ew.goto hx (tgt := 17) dX12_isOpen_13 rfl ?_
    refine Ew.bret hx hq dX12_isOpen_17 rfl (by decide) ?_
    refine ⟨congrArg (fun z => some (Value.int z)) ?_, rfl⟩
    first | exact (b2i_t (show dr ≤ lv - rf s r 0 from by unfold rf; simp only [il, ie] at *; omega)).symm | exact (b2i_f (fun q => by have q2 : dr ≤ lv - rf s r 0 := q; unfold rf at q2; simp only [il, ie] at *; omega)).symm
set_option maxHeartbeats 4000000 in
set_option maxRecDepth 100000 in
theorem ct_X12_comes (G : GT) (V : Mm) {s : Sv} (hM : MR V s) {p : Nat} (hp : p < 12) (D : Nat) : Ct G mX12_comes 1 [adr G 532, .int (nI p), .int (nI D)] (V) (Ri (b2i (cms s p D)) V) := by
  refine Ct.of cf_X12_comes (List.forall_mem_cons.mpr ⟨rfl, List.forall_mem_cons.mpr ⟨rfl, List.forall_mem_cons.mpr ⟨rfl, fun _ h => absurd h List.not_mem_nil⟩⟩⟩) (Nat.le_of_ble_eq_true rfl) (l0 := [some (adr G 532), some (.int (nI p)), some (.int (nI D))]) rfl (fun C hx hq => ?_)
  refine Ew.aload_n hx dX12_comes_0 rfl ?_
  refine Ew.iload_n hx dX12_comes_1 rfl ?_
  refine Ew.bipush hx dX12_comes_2 k_bipush_11 ?_
  refine Ew.callV2 (y' := mX12_of) hx dX12_comes_4 ml_RX12_53 cf_X12_of cv_X12_of (ct_X12_of G V hp (j := 11) (by decide)) rfl oc_19 rfl (by decide) (by decide) rfl (Nat.le_of_ble_eq_true rfl) ?_
  rintro _ V9 ⟨rfl, h9⟩; subst V9
  rw [hM _ (by omega)]
  refine Ew.if_ne hx (tgt := 43) dX12_comes_7 rfl (fun h7 => ?_) (fun h7 => ?_)
  · refine Ew.iconst hx dX12_comes_43 k_iconst_0 ?_
    refine Ew.bret hx hq dX12_comes_44 rfl (by decide) ?_
    refine ⟨congrArg (fun z => some (Value.int z)) ?_, rfl⟩
    first
      | exact (b2i_t ⟨h7, by simp only [il, ie] at *; omega, h36.1, h36.2⟩).symm
      | exact (b2i_f (fun q => h36 ⟨q.2.2.1, q.2.2.2⟩)).symm
      | exact (b2i_f (fun q => by have q2 := q.2.1; simp only [il, ie] at *; omega)).symm
      | exact (b2i_f (fun q => h7 q.1)).symm
  · refine Ew.iload_n hx dX12_comes_10 rfl ?_
    refine Ew.aload_n hx dX12_comes_11 rfl ?_
    refine Ew.getR (533) hx dX12_comes_12 fg_RX12_7 rfl rfl ?_
    refine Ew.iconst hx dX12_comes_15 k_iconst_0 ?_
    refine Ew.iald (i := 0) hx dX12_comes_16 ag_20 rfl (rfl) (by decide) ?_
    rw [hM 0 (by decide)]
    refine Ew.icmp_lt hx (tgt := 43) dX12_comes_17 rfl (fun h17 => ?_) (fun h17 => ?_)
    · refine Ew.iconst hx dX12_comes_43 k_iconst_0 ?_
      refine Ew.bret hx hq dX12_comes_44 rfl (by decide) ?_
      refine ⟨congrArg (fun z => some (Value.int z)) ?_, rfl⟩
      first
        | exact (b2i_t ⟨h7, by simp only [il, ie] at *; omega, h36.1, h36.2⟩).symm
        | exact (b2i_f (fun q => h36 ⟨q.2.2.1, q.2.2.2⟩)).symm
        | exact (b2i_f (fun q => by have q2 := q.2.1; simp only [il, ie] at *; omega)).symm
        | exact (b2i_f (fun q => h7 q.1)).symm
    · refine Ew.iload_n hx dX12_comes_20 rfl ?_
      refine Ew.aload_n hx dX12_comes_21 rfl ?_
      refine Ew.iload_n hx dX12_comes_22 rfl ?_
      refine Ew.iconst hx dX12_comes_23 k_iconst_1 ?_
      refine Ew.callV2 (y' := mX12_of) hx dX12_comes_24 ml_RX12_53 cf_X12_of cv_X12_of (ct_X12_of G V hp (j := 1) (by decide)) rfl oc_19 rfl (by decide) (by decide) rfl (Nat.le_of_ble_eq_true rfl) ?_
      rintro _ V9 ⟨rfl, h9⟩; subst V9
      rw [hM _ (by omega)]
      refine Ew.aload_n hx dX12_comes_27 rfl ?_
      refine Ew.iload_n hx dX12_comes_28 rfl ?_
      refine Ew.iconst hx dX12_comes_29 k_iconst_2 ?_
      refine Ew.callV2 (y' := mX12_of) hx dX12_comes_30 ml_RX12_53 cf_X12_of cv_X12_of (ct_X12_of G V hp (j := 2) (by decide)) rfl oc_19 rfl (by decide) (by decide) rfl (Nat.le_of_ble_eq_true rfl) ?_
      rintro _ V9 ⟨rfl, h9⟩; subst V9
      rw [hM _ (by omega)]
      refine Ew.callS (y' := mX12_in) hx dX12_comes_33 ml_RX12_38 cf_X12_in cs_X12_in (ct_X12_in G _ _ _ _) rfl (by decide) (by decide) rfl (Nat.le_of_ble_eq_true rfl) ?_
      rintro _ V9 ⟨rfl, h9⟩; subst V9
      refine Ew.ifeq_b hx (tgt := 43) dX12_comes_36 rfl (fun h36 => ?_) (fun h36 => ?_)
      · refine Ew.iconst hx dX12_comes_43 k_iconst_0 ?_
        refine Ew.bret hx hq dX12_comes_44 rfl (by decide) ?_
        refine ⟨congrArg (fun z => some (Value.int z)) ?_, rfl⟩
        first
          | exact (b2i_t ⟨h7, by simp only [il, ie] at *; omega, h36.1, h36.2⟩).symm
          | exact (b2i_f (fun q => h36 ⟨q.2.2.1, q.2.2.2⟩)).symm
          | exact (b2i_f (fun q => by have q2 := q.2.1; simp only [il, ie] at *; omega)).symm
          | exact (b2i_f (fun q => h7 q.1)).symm
      · refine Ew.iconst hx dX12_comes_39 k_iconst_1 ?_
        refine Ew.goto hx (tgt := 44) dX12_comes_40 rfl ?_
        refine Ew.bret hx hq dX12_comes_44 rfl (by decide) ?_
        refine ⟨congrArg (fun z => some (Value.int z)) ?_, rfl⟩
        first
          | exact (b2i_t ⟨h7, by simp only [il, ie] at *; omega, h36.1, h36.2⟩).symm
          | exact (b2i_f (fun q => h36 ⟨q.2.2.1, q.2.2.2⟩)).symm
          | exact (b2i_f (fun q => by have q2 := q.2.1; simp only [il, ie] at *; omega)).symm
          | exact (b2i_f (fun q => h7 q.1)).symm
