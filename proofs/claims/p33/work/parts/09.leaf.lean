def rs (V : Mm) (k : Nat) (f : Nat → Int32) : Mm := fun a => if a = k then f else V a
theorem rs_same (V : Mm) (k : Nat) (f : Nat → Int32) : rs V k f k = f := by simp [rs]
theorem rs_ne (V : Mm) {k a : Nat} (f : Nat → Int32) (h : a ≠ k) : rs V k f a = V a := by simp [rs, h]
theorem rs_rs (V : Mm) (k : Nat) (f g : Nat → Int32) : rs (rs V k f) k g = rs V k g := by
  funext a
  by_cases h : a = k <;> simp [rs, h]
theorem mup_rs (V : Mm) (k i : Nat) (x : Int32) : mup V k i x = rs V k (upd (V k) i x) := rfl
theorem rs_self (V : Mm) (k : Nat) : rs V k (V k) = V := by
  funext a
  by_cases h : a = k
  · subst h; simp [rs]
  · simp [rs, h]
theorem upd_s (f : Nat → Int32) (i : Nat) (x : Int32) : upd f i x i = x := by simp [upd]
theorem upd_n (f : Nat → Int32) {i j : Nat} (x : Int32) (h : j ≠ i) : upd f i x j = f j := by simp [upd, h]
def spanP (a b : Int32) : Prop := (0 ≤ a ∧ a ≤ 181) ∧ (a ≤ b ∧ b ≤ 181) ∧ b - a ≤ 29
def errP (x : Int32) : Prop := x = -100001 ∨ x = -100002 ∨ x = -100003
def dtcI (f l c t : Int32) : Int32 := if c ≠ 0 then 0 else if l < (if t < f then f else t) then 0 else l - (if t < f then f else t) + 1
def cmsP (f l c day t : Int32) : Prop := c = 0 ∧ t ≤ day ∧ f ≤ day ∧ day ≤ l
def mvF (f : Nat → Int32) (nr nf df : Int32) : Nat → Int32 := upd (upd (if 0 < df then upd f 5 (f 5 + df) else upd f 7 (f 7 - df)) 0 nr) 4 nf
def cnO (f : Nat → Int32) (op cl : Int32) : Int32 := cl * f 4 + op * (f 4 / 2)
def cnF (f : Nat → Int32) (op cl : Int32) : Nat → Int32 := upd (upd (upd f 7 (f 7 + cnO f op cl)) 6 (f 6 + op * (f 4 - f 4 / 2))) 11 1
def rfF (f : Nat → Int32) : Nat → Int32 := upd (upd f 8 (f 8 + f 7)) 7 0
def usF (f : Nat → Int32) : Nat → Int32 := upd (upd f 9 (f 9 + 1)) 6 (f 6 + f 4)
def loF (f : Nat → Int32) : Nat → Int32 := upd (upd f 10 (f 10 + 1)) 7 (f 7 + f 4)
def bgF (f : Nat → Int32) (nr nf a b dr : Int32) : Nat → Int32 := upd (upd (upd (upd (upd (upd (upd (upd (upd (upd (upd (upd f 0 nr) 1 a) 2 b) 3 dr) 4 nf) 5 (nf * (b - a + 1))) 6 0) 7 0) 8 0) 9 0) 10 0) 11 0
def cpF (f g : Nat → Int32) (n : Nat) : Nat → Int32 := fun j => if j < n then g j else f j
def gdI (lv e : Int32) : Int32 := if lv - e < 0 then -100009 else if 300 < lv - e then 300 else lv - e
set_option maxHeartbeats 4000000 in
set_option maxRecDepth 100000 in
theorem ct_X11_isWithin (G : GT) (V : Mm) (x a b : Int32) : Ct G mX11_isWithin 0 [.int x, .int a, .int b] (V) (Ri (b2i (a ≤ x ∧ x ≤ b)) V) := by
  refine Ct.of cf_X11_isWithin (List.forall_mem_cons.mpr ⟨rfl, List.forall_mem_cons.mpr ⟨rfl, List.forall_mem_cons.mpr ⟨rfl, fun _ h => absurd h List.not_mem_nil⟩⟩⟩) (Nat.le_of_ble_eq_true rfl) (l0 := [some (.int x), some (.int a), some (.int b)]) rfl (fun C hx hq => ?_)
  refine Ew.iload_n hx dX11_isWithin_0 rfl ?_
  refine Ew.iload_n hx dX11_isWithin_1 rfl ?_
  refine Ew.icmp_lt hx (tgt := 14) dX11_isWithin_2 rfl (fun h2 => ?_) (fun h2 => ?_)
  · refine Ew.iconst hx dX11_isWithin_14 k_iconst_0 ?_
    refine Ew.bret hx hq dX11_isWithin_15 rfl (by first | exact b2i_01 _ | decide) ?_
    refine ⟨congrArg (fun z => some (Value.int z)) ?_, rfl⟩
    first | exact (b2i_t (by simp only [il, ie] at *; omega)).symm | exact (b2i_f (by simp only [il, ie] at *; omega)).symm
  · refine Ew.iload_n hx dX11_isWithin_5 rfl ?_
    refine Ew.iload_n hx dX11_isWithin_6 rfl ?_
    refine Ew.icmp_gt hx (tgt := 14) dX11_isWithin_7 rfl (fun h7 => ?_) (fun h7 => ?_)
    · refine Ew.iconst hx dX11_isWithin_14 k_iconst_0 ?_
      refine Ew.bret hx hq dX11_isWithin_15 rfl (by first | exact b2i_01 _ | decide) ?_
      refine ⟨congrArg (fun z => some (Value.int z)) ?_, rfl⟩
      first | exact (b2i_t (by simp only [il, ie] at *; omega)).symm | exact (b2i_f (by simp only [il, ie] at *; omega)).symm
    · refine Ew.iconst hx dX11_isWithin_10 k_iconst_1 ?_
      refine Ew.goto hx (tgt := 15) dX11_isWithin_11 rfl ?_
      refine Ew.bret hx hq dX11_isWithin_15 rfl (by first | exact b2i_01 _ | decide) ?_
      refine ⟨congrArg (fun z => some (Value.int z)) ?_, rfl⟩
      first | exact (b2i_t (by simp only [il, ie] at *; omega)).symm | exact (b2i_f (by simp only [il, ie] at *; omega)).symm
set_option maxHeartbeats 4000000 in
set_option maxRecDepth 100000 in
theorem ct_X11_isPermitSpan (G : GT) (V : Mm) (a b : Int32) : Ct G mX11_isPermitSpan 1 [.int a, .int b] (V) (Ri (b2i (spanP a b)) V) := by
  refine Ct.of cf_X11_isPermitSpan (List.forall_mem_cons.mpr ⟨rfl, List.forall_mem_cons.mpr ⟨rfl, fun _ h => absurd h List.not_mem_nil⟩⟩) (Nat.le_of_ble_eq_true rfl) (l0 := [some (.int a), some (.int b)]) rfl (fun C hx hq => ?_)
  refine Ew.iload_n hx dX11_isPermitSpan_0 rfl ?_
  refine Ew.iconst hx dX11_isPermitSpan_1 k_iconst_0 ?_
  refine Ew.sipush hx dX11_isPermitSpan_2 k_sipush_181 ?_
  refine Ew.callS (y' := mX11_isWithin) hx dX11_isPermitSpan_5 ml_RX11_107 cf_X11_isWithin cs_X11_isWithin (ct_X11_isWithin G _ _ _ _) rfl (by decide) (by decide) rfl (Nat.le_of_ble_eq_true rfl) ?_
  rintro _ V9 ⟨rfl, h9⟩; subst V9
  refine Ew.ifeq_b hx (tgt := 34) dX11_isPermitSpan_8 rfl (fun h8 => ?_) (fun h8 => ?_)
  · refine Ew.iconst hx dX11_isPermitSpan_34 k_iconst_0 ?_
    refine Ew.bret hx hq dX11_isPermitSpan_35 rfl (by first | exact b2i_01 _ | decide) ?_
    refine ⟨congrArg (fun z => some (Value.int z)) ?_, rfl⟩
    first | exact (b2i_t (by simp only [spanP, il, ie] at *; omega)).symm | exact (b2i_f (by simp only [spanP, il, ie] at *; omega)).symm
  · refine Ew.iload_n hx dX11_isPermitSpan_11 rfl ?_
    refine Ew.iload_n hx dX11_isPermitSpan_12 rfl ?_
    refine Ew.sipush hx dX11_isPermitSpan_13 k_sipush_181 ?_
    refine Ew.callS (y' := mX11_isWithin) hx dX11_isPermitSpan_16 ml_RX11_107 cf_X11_isWithin cs_X11_isWithin (ct_X11_isWithin G _ _ _ _) rfl (by decide) (by decide) rfl (Nat.le_of_ble_eq_true rfl) ?_
    rintro _ V9 ⟨rfl, h9⟩; subst V9
    refine Ew.ifeq_b hx (tgt := 34) dX11_isPermitSpan_19 rfl (fun h19 => ?_) (fun h19 => ?_)
    · refine Ew.iconst hx dX11_isPermitSpan_34 k_iconst_0 ?_
      refine Ew.bret hx hq dX11_isPermitSpan_35 rfl (by first | exact b2i_01 _ | decide) ?_
      refine ⟨congrArg (fun z => some (Value.int z)) ?_, rfl⟩
      first | exact (b2i_t (by simp only [spanP, il, ie] at *; omega)).symm | exact (b2i_f (by simp only [spanP, il, ie] at *; omega)).symm
    · refine Ew.iload_n hx dX11_isPermitSpan_22 rfl ?_
      refine Ew.iload_n hx dX11_isPermitSpan_23 rfl ?_
      refine Ew.isub hx dX11_isPermitSpan_24 ?_
      refine Ew.bipush hx dX11_isPermitSpan_25 k_bipush_29 ?_
      refine Ew.icmp_gt hx (tgt := 34) dX11_isPermitSpan_27 rfl (fun h27 => ?_) (fun h27 => ?_)
      · refine Ew.iconst hx dX11_isPermitSpan_34 k_iconst_0 ?_
        refine Ew.bret hx hq dX11_isPermitSpan_35 rfl (by first | exact b2i_01 _ | decide) ?_
        refine ⟨congrArg (fun z => some (Value.int z)) ?_, rfl⟩
        first | exact (b2i_t (by simp only [spanP, il, ie] at *; omega)).symm | exact (b2i_f (by simp only [spanP, il, ie] at *; omega)).symm
      · refine Ew.iconst hx dX11_isPermitSpan_30 k_iconst_1 ?_
        refine Ew.goto hx (tgt := 35) dX11_isPermitSpan_31 rfl ?_
        refine Ew.bret hx hq dX11_isPermitSpan_35 rfl (by first | exact b2i_01 _ | decide) ?_
        refine ⟨congrArg (fun z => some (Value.int z)) ?_, rfl⟩
        first | exact (b2i_t (by simp only [spanP, il, ie] at *; omega)).symm | exact (b2i_f (by simp only [spanP, il, ie] at *; omega)).symm
set_option maxHeartbeats 4000000 in
set_option maxRecDepth 100000 in
theorem ct_X11_isError (G : GT) (V : Mm) (x : Int32) : Ct G mX11_isError 0 [.int x] (V) (Ri (b2i (errP x)) V) := by
  refine Ct.of cf_X11_isError (List.forall_mem_cons.mpr ⟨rfl, fun _ h => absurd h List.not_mem_nil⟩) (Nat.le_of_ble_eq_true rfl) (l0 := [some (.int x)]) rfl (fun C hx hq => ?_)
  refine Ew.iload_n hx dX11_isError_0 rfl ?_
  refine Ew.ldc hx dX11_isError_1 kn_RX11_111 ?_
  refine Ew.icmp_eq hx (tgt := 18) dX11_isError_3 rfl (fun h3 => ?_) (fun h3 => ?_)
  · refine Ew.iconst hx dX11_isError_18 k_iconst_1 ?_
    refine Ew.goto hx (tgt := 23) dX11_isError_19 rfl ?_
    refine Ew.bret hx hq dX11_isError_23 rfl (by first | exact b2i_01 _ | decide) ?_
    refine ⟨congrArg (fun z => some (Value.int z)) ?_, rfl⟩
    first | exact (b2i_t (by simp_all [errP])).symm | exact (b2i_f (by simp_all [errP])).symm
  · refine Ew.iload_n hx dX11_isError_6 rfl ?_
    refine Ew.ldc hx dX11_isError_7 kn_RX11_96 ?_
    refine Ew.icmp_eq hx (tgt := 18) dX11_isError_9 rfl (fun h9 => ?_) (fun h9 => ?_)
    · refine Ew.iconst hx dX11_isError_18 k_iconst_1 ?_
      refine Ew.goto hx (tgt := 23) dX11_isError_19 rfl ?_
      refine Ew.bret hx hq dX11_isError_23 rfl (by first | exact b2i_01 _ | decide) ?_
      refine ⟨congrArg (fun z => some (Value.int z)) ?_, rfl⟩
      first | exact (b2i_t (by simp_all [errP])).symm | exact (b2i_f (by simp_all [errP])).symm
    · refine Ew.iload_n hx dX11_isError_12 rfl ?_
      refine Ew.ldc hx dX11_isError_13 kn_RX11_253 ?_
      refine Ew.icmp_ne hx (tgt := 22) dX11_isError_15 rfl (fun h15 => ?_) (fun h15 => ?_)
      · refine Ew.iconst hx dX11_isError_22 k_iconst_0 ?_
        refine Ew.bret hx hq dX11_isError_23 rfl (by first | exact b2i_01 _ | decide) ?_
        refine ⟨congrArg (fun z => some (Value.int z)) ?_, rfl⟩
        first | exact (b2i_t (by simp_all [errP])).symm | exact (b2i_f (by simp_all [errP])).symm
      · refine Ew.iconst hx dX11_isError_18 k_iconst_1 ?_
        refine Ew.goto hx (tgt := 23) dX11_isError_19 rfl ?_
        refine Ew.bret hx hq dX11_isError_23 rfl (by first | exact b2i_01 _ | decide) ?_
        refine ⟨congrArg (fun z => some (Value.int z)) ?_, rfl⟩
        first | exact (b2i_t (by simp_all [errP])).symm | exact (b2i_f (by simp_all [errP])).symm
set_option maxHeartbeats 4000000 in
set_option maxRecDepth 100000 in
theorem ct_X10_bounded (G : GT) (V : Mm) (x : Int32) : Ct G mX10_bounded 0 [.int x] (V) (Ri (bnd x) V) := by
  refine Ct.of cf_X10_bounded (List.forall_mem_cons.mpr ⟨rfl, fun _ h => absurd h List.not_mem_nil⟩) (Nat.le_of_ble_eq_true rfl) (l0 := [some (.int x)]) rfl (fun C hx hq => ?_)
  refine Ew.iload_n hx dX10_bounded_0 rfl ?_
  refine Ew.if_ge hx (tgt := 8) dX10_bounded_1 rfl (fun h1 => ?_) (fun h1 => ?_)
  · refine Ew.iload_n hx dX10_bounded_8 rfl ?_
    refine Ew.sipush hx dX10_bounded_9 k_sipush_5000 ?_
    refine Ew.icmp_le hx (tgt := 21) dX10_bounded_12 rfl (fun h12 => ?_) (fun h12 => ?_)
    · refine Ew.iload_n hx dX10_bounded_21 rfl ?_
      refine Ew.iret hx hq dX10_bounded_22 rfl ?_
      refine ⟨congrArg (fun z => some (Value.int z)) ?_, rfl⟩
      simp only [hld, il, ie, bnd] at *
      repeat (first | rw [if_pos (by omega)] | rw [if_neg (by omega)])
    · refine Ew.sipush hx dX10_bounded_15 k_sipush_5000 ?_
      refine Ew.goto hx (tgt := 22) dX10_bounded_18 rfl ?_
      refine Ew.iret hx hq dX10_bounded_22 rfl ?_
      refine ⟨congrArg (fun z => some (Value.int z)) ?_, rfl⟩
      simp only [hld, il, ie, bnd] at *
      repeat (first | rw [if_pos (by omega)] | rw [if_neg (by omega)])
  · refine Ew.iconst hx dX10_bounded_4 k_iconst_0 ?_
    refine Ew.goto hx (tgt := 22) dX10_bounded_5 rfl ?_
    refine Ew.iret hx hq dX10_bounded_22 rfl ?_
    refine ⟨congrArg (fun z => some (Value.int z)) ?_, rfl⟩
    simp only [hld, il, ie, bnd] at *
    repeat (first | rw [if_pos (by omega)] | rw [if_neg (by omega)])
set_option maxHeartbeats 4000000 in
set_option maxRecDepth 100000 in
theorem ct_X10_rateOn (G : GT) (V : Mm) (k t : Nat) (hk : kd k = 3) (hk1 : kd (k + 1) = 4) (ht : t < 2 ^ 31) : Ct G mX10_rateOn 0 [adr G k, .int (nI t)] (V) (Ri (rtd (V (k + 1)) t) V) := by
  refine Ct.of cf_X10_rateOn (List.forall_mem_cons.mpr ⟨rfl, List.forall_mem_cons.mpr ⟨rfl, fun _ h => absurd h List.not_mem_nil⟩⟩) (Nat.le_of_ble_eq_true rfl) (l0 := [some (adr G k), some (.int (nI t)), none]) rfl (fun C hx hq => ?_)
  refine Ew.iload_n hx dX10_rateOn_0 rfl ?_
  refine Ew.bipush hx dX10_rateOn_1 k_bipush_7 ?_
  refine Ew.idiv hx dX10_rateOn_3 (by decide) ?_
  rw [show nI t / 7 = nI (t / 7) from pk_div ht (by decide) (by decide)]
  refine Ew.istore_n hx dX10_rateOn_4 (by decide) rfl ?_
  refine Ew.iload_n hx dX10_rateOn_5 rfl ?_
  refine Ew.if_lt_f hx (tgt := 24) dX10_rateOn_6 rfl (nI_pos (by omega)) ?_
  refine Ew.iload_n hx dX10_rateOn_9 rfl ?_
  refine Ew.bipush hx dX10_rateOn_10 k_bipush_26 ?_
  refine Ew.icmp_ge hx (tgt := 24) dX10_rateOn_12 rfl (fun h12 => ?_) (fun h12 => ?_)
  · refine Ew.iconst hx dX10_rateOn_24 k_iconst_0 ?_
    refine Ew.iret hx hq dX10_rateOn_25 rfl ?_
    refine ⟨congrArg (fun z => some (Value.int z)) ?_, rfl⟩
    first | exact (if_pos h13).symm | exact (if_neg (by rw [ie, tn (by omega), tl_26] at h12; omega)).symm
  · refine Ew.aload_n hx dX10_rateOn_15 rfl ?_
    have h13 : t / 7 < 26 := by
      rw [ie, tn (by omega), tl_26] at h12
      omega
    refine Ew.getR (k + 1) hx dX10_rateOn_16 fg_RX10_15 (hk) (by omega) ?_
    refine Ew.iload_n hx dX10_rateOn_19 rfl ?_
    refine Ew.iald (i := t / 7) hx dX10_rateOn_20 ag_4 (hk1) (rfl) (by omega) ?_
    refine Ew.goto hx (tgt := 25) dX10_rateOn_21 rfl ?_
    refine Ew.iret hx hq dX10_rateOn_25 rfl ?_
    refine ⟨congrArg (fun z => some (Value.int z)) ?_, rfl⟩
    first | exact (if_pos h13).symm | exact (if_neg (by rw [ie, tn (by omega), tl_26] at h12; omega)).symm
set_option maxHeartbeats 4000000 in
set_option maxRecDepth 100000 in
theorem ct_X10_nextDay (G : GT) (V : Mm) (c : Int32) : Ct G mX10_nextDay 1 [adr G 3, .int c] (V) (Rv (rs V 3 (upd (upd (V 3) 1 (bnd (V 3 1 + c))) 0 (V 3 0 + 1)))) := by
  refine Ct.of cf_X10_nextDay (List.forall_mem_cons.mpr ⟨rfl, List.forall_mem_cons.mpr ⟨rfl, fun _ h => absurd h List.not_mem_nil⟩⟩) (Nat.le_of_ble_eq_true rfl) (l0 := [some (adr G 3), some (.int c)]) rfl (fun C hx hq => ?_)
  refine Ew.aload_n hx dX10_nextDay_0 rfl ?_
  refine Ew.aload_n hx dX10_nextDay_1 rfl ?_
  refine Ew.getI hx dX10_nextDay_2 fg_RX10_9 rfl ?_
  refine Ew.iload_n hx dX10_nextDay_5 rfl ?_
  refine Ew.iadd hx dX10_nextDay_6 ?_
  refine Ew.callS (y' := mX10_bounded) hx dX10_nextDay_7 ml_RX10_32 cf_X10_bounded cs_X10_bounded (ct_X10_bounded G _ _) rfl (by decide) (by decide) rfl (Nat.le_of_ble_eq_true rfl) ?_
  rintro _ V9 ⟨rfl, h9⟩; subst V9
  refine Ew.putI hx dX10_nextDay_10 pg_RX10_9 rfl ?_
  refine Ew.aload_n hx dX10_nextDay_13 rfl ?_
  refine Ew.dup hx dX10_nextDay_14 rfl ?_
  refine Ew.getI hx dX10_nextDay_15 fg_RX10_19 rfl ?_
  refine Ew.iconst hx dX10_nextDay_18 k_iconst_1 ?_
  refine Ew.iadd hx dX10_nextDay_19 ?_
  refine Ew.putI hx dX10_nextDay_20 pg_RX10_19 rfl ?_
  refine Ew.vret hx hq dX10_nextDay_23 rfl ?_
  refine ⟨rfl, ?_⟩
  simp [mup_rs, rs_same, rs_rs, upd]
set_option maxHeartbeats 4000000 in
set_option maxRecDepth 100000 in
theorem ct_X6_isOpen (G : GT) (V : Mm) (k : Nat) (lv dr : Int32) (hk : kd k = 9) : Ct G mX6_isOpen 0 [adr G k, .int lv, .int dr] (V) (Ri (b2i (dr ≤ lv - V k 0)) V) := by
  refine Ct.of cf_X6_isOpen (List.forall_mem_cons.mpr ⟨rfl, List.forall_mem_cons.mpr ⟨rfl, List.forall_mem_cons.mpr ⟨rfl, fun _ h => absurd h List.not_mem_nil⟩⟩⟩) (Nat.le_of_ble_eq_true rfl) (l0 := [some (adr G k), some (.int lv), some (.int dr)]) rfl (fun C hx hq => ?_)
  refine Ew.iload_n hx dX6_isOpen_0 rfl ?_
  refine Ew.aload_n hx dX6_isOpen_1 rfl ?_
  refine Ew.getI hx dX6_isOpen_2 fg_RX6_9 (hk) ?_
  refine Ew.isub hx dX6_isOpen_5 ?_
  refine Ew.iload_n hx dX6_isOpen_6 rfl ?_
  refine Ew.icmp_lt hx (tgt := 14) dX6_isOpen_7 rfl (fun h7 => ?_) (fun h7 => ?_)
  · refine Ew.iconst hx dX6_isOpen_14 k_iconst_0 ?_
    refine Ew.bret hx hq dX6_isOpen_15 rfl (by first | exact b2i_01 _ | decide) ?_
    refine ⟨congrArg (fun z => some (Value.int z)) ?_, rfl⟩
    first | exact (b2i_t (by simp only [il, ie] at *; omega)).symm | exact (b2i_f (by simp only [il, ie] at *; omega)).symm
  · refine Ew.iconst hx dX6_isOpen_10 k_iconst_1 ?_
    refine Ew.goto hx (tgt := 15) dX6_isOpen_11 rfl ?_
    refine Ew.bret hx hq dX6_isOpen_15 rfl (by first | exact b2i_01 _ | decide) ?_
    refine ⟨congrArg (fun z => some (Value.int z)) ?_, rfl⟩
    first | exact (b2i_t (by simp only [il, ie] at *; omega)).symm | exact (b2i_f (by simp only [il, ie] at *; omega)).symm
set_option maxHeartbeats 4000000 in
set_option maxRecDepth 100000 in
theorem ct_X6_greatestDraught (G : GT) (V : Mm) (k : Nat) (lv : Int32) (hk : kd k = 9) : Ct G mX6_greatestDraught 0 [adr G k, .int lv] (V) (Ri (gdI lv (V k 0)) V) := by
  refine Ct.of cf_X6_greatestDraught (List.forall_mem_cons.mpr ⟨rfl, List.forall_mem_cons.mpr ⟨rfl, fun _ h => absurd h List.not_mem_nil⟩⟩) (Nat.le_of_ble_eq_true rfl) (l0 := [some (adr G k), some (.int lv), none]) rfl (fun C hx hq => ?_)
  refine Ew.iload_n hx dX6_greatestDraught_0 rfl ?_
  refine Ew.aload_n hx dX6_greatestDraught_1 rfl ?_
  refine Ew.getI hx dX6_greatestDraught_2 fg_RX6_9 (hk) ?_
  refine Ew.isub hx dX6_greatestDraught_5 ?_
  refine Ew.istore_n hx dX6_greatestDraught_6 (by decide) rfl ?_
  refine Ew.iload_n hx dX6_greatestDraught_7 rfl ?_
  refine Ew.if_ge hx (tgt := 16) dX6_greatestDraught_8 rfl (fun h8 => ?_) (fun h8 => ?_)
  · refine Ew.iload_n hx dX6_greatestDraught_16 rfl ?_
    refine Ew.sipush hx dX6_greatestDraught_17 k_sipush_300 ?_
    refine Ew.icmp_le hx (tgt := 29) dX6_greatestDraught_20 rfl (fun h20 => ?_) (fun h20 => ?_)
    · refine Ew.iload_n hx dX6_greatestDraught_29 rfl ?_
      refine Ew.iret hx hq dX6_greatestDraught_30 rfl ?_
      refine ⟨congrArg (fun z => some (Value.int z)) ?_, rfl⟩
      simp only [gdI, il, ie] at *
      repeat (first | rw [if_pos (by omega)] | rw [if_neg (by omega)])
    · refine Ew.sipush hx dX6_greatestDraught_23 k_sipush_300 ?_
      refine Ew.goto hx (tgt := 30) dX6_greatestDraught_26 rfl ?_
      refine Ew.iret hx hq dX6_greatestDraught_30 rfl ?_
      refine ⟨congrArg (fun z => some (Value.int z)) ?_, rfl⟩
      simp only [gdI, il, ie] at *
      repeat (first | rw [if_pos (by omega)] | rw [if_neg (by omega)])
  · refine Ew.ldc hx dX6_greatestDraught_11 kn_RX6_21 ?_
    refine Ew.goto hx (tgt := 30) dX6_greatestDraught_13 rfl ?_
    refine Ew.iret hx hq dX6_greatestDraught_30 rfl ?_
    refine ⟨congrArg (fun z => some (Value.int z)) ?_, rfl⟩
    simp only [gdI, il, ie] at *
    repeat (first | rw [if_pos (by omega)] | rw [if_neg (by omega)])
set_option maxHeartbeats 4000000 in
set_option maxRecDepth 100000 in
theorem ct_X6_copyFrom (G : GT) (V : Mm) (k q : Nat) (hk : kd k = 9) (hq2 : kd q = 9) (hkq : q ≠ k) : Ct G mX6_copyFrom 0 [adr G k, adr G q] (V) (Rv (rs V k (cpF (V k) (V q) 3))) := by
  refine Ct.of cf_X6_copyFrom (List.forall_mem_cons.mpr ⟨rfl, List.forall_mem_cons.mpr ⟨rfl, fun _ h => absurd h List.not_mem_nil⟩⟩) (Nat.le_of_ble_eq_true rfl) (l0 := [some (adr G k), some (adr G q)]) rfl (fun C hx hq => ?_)
  refine Ew.aload_n hx dX6_copyFrom_0 rfl ?_
  refine Ew.aload_n hx dX6_copyFrom_1 rfl ?_
  refine Ew.getI hx dX6_copyFrom_2 fg_RX6_9 (hq2) ?_
  refine Ew.putI hx dX6_copyFrom_5 pg_RX6_9 (hk) ?_
  refine Ew.aload_n hx dX6_copyFrom_8 rfl ?_
  refine Ew.aload_n hx dX6_copyFrom_9 rfl ?_
  refine Ew.getI hx dX6_copyFrom_10 fg_RX6_15 (hq2) ?_
  refine Ew.putI hx dX6_copyFrom_13 pg_RX6_15 (hk) ?_
  refine Ew.aload_n hx dX6_copyFrom_16 rfl ?_
  refine Ew.aload_n hx dX6_copyFrom_17 rfl ?_
  refine Ew.getI hx dX6_copyFrom_18 fg_RX6_18 (hq2) ?_
  refine Ew.putI hx dX6_copyFrom_21 pg_RX6_18 (hk) ?_
  refine Ew.vret hx hq dX6_copyFrom_24 rfl ?_
  refine ⟨rfl, ?_⟩
  simp only [mup_rs, rs_same, rs_rs, rs_ne V _ hkq]
  congr 1
  funext j
  simp only [cpF, upd]
  repeat' split
  all_goals first | rfl | omega | (subst_vars; rfl)
set_option maxHeartbeats 4000000 in
set_option maxRecDepth 100000 in
theorem ct_X4_begin (G : GT) (V : Mm) (k : Nat) (nr nf a b dr : Int32) (hk : kd k = 10) : Ct G mX4_begin 0 [adr G k, .int nr, .int nf, .int a, .int b, .int dr] (V) (Rv (rs V k (bgF (V k) nr nf a b dr))) := by
  refine Ct.of cf_X4_begin (List.forall_mem_cons.mpr ⟨rfl, List.forall_mem_cons.mpr ⟨rfl, List.forall_mem_cons.mpr ⟨rfl, List.forall_mem_cons.mpr ⟨rfl, List.forall_mem_cons.mpr ⟨rfl, List.forall_mem_cons.mpr ⟨rfl, fun _ h => absurd h List.not_mem_nil⟩⟩⟩⟩⟩⟩) (Nat.le_of_ble_eq_true rfl) (l0 := [some (adr G k), some (.int nr), some (.int nf), some (.int a), some (.int b), some (.int dr)]) rfl (fun C hx hq => ?_)
  refine Ew.aload_n hx dX4_begin_0 rfl ?_
  refine Ew.iload_n hx dX4_begin_1 rfl ?_
  refine Ew.putI hx dX4_begin_2 pg_RX4_9 (hk) ?_
  refine Ew.aload_n hx dX4_begin_5 rfl ?_
  refine Ew.iload_n hx dX4_begin_6 rfl ?_
  refine Ew.putI hx dX4_begin_7 pg_RX4_15 (hk) ?_
  refine Ew.aload_n hx dX4_begin_10 rfl ?_
  refine Ew.iload hx dX4_begin_11 rfl ?_
  refine Ew.putI hx dX4_begin_13 pg_RX4_18 (hk) ?_
  refine Ew.aload_n hx dX4_begin_16 rfl ?_
  refine Ew.iload hx dX4_begin_17 rfl ?_
  refine Ew.putI hx dX4_begin_19 pg_RX4_21 (hk) ?_
  refine Ew.aload_n hx dX4_begin_22 rfl ?_
  refine Ew.iload_n hx dX4_begin_23 rfl ?_
  refine Ew.putI hx dX4_begin_24 pg_RX4_24 (hk) ?_
  refine Ew.aload_n hx dX4_begin_27 rfl ?_
  refine Ew.iload_n hx dX4_begin_28 rfl ?_
  refine Ew.iload hx dX4_begin_29 rfl ?_
  refine Ew.iload_n hx dX4_begin_31 rfl ?_
  refine Ew.isub hx dX4_begin_32 ?_
  refine Ew.iconst hx dX4_begin_33 k_iconst_1 ?_
  refine Ew.iadd hx dX4_begin_34 ?_
  refine Ew.imul hx dX4_begin_35 ?_
  refine Ew.putI hx dX4_begin_36 pg_RX4_27 (hk) ?_
  refine Ew.aload_n hx dX4_begin_39 rfl ?_
  refine Ew.iconst hx dX4_begin_40 k_iconst_0 ?_
  refine Ew.putI hx dX4_begin_41 pg_RX4_30 (hk) ?_
  refine Ew.aload_n hx dX4_begin_44 rfl ?_
  refine Ew.iconst hx dX4_begin_45 k_iconst_0 ?_
  refine Ew.putI hx dX4_begin_46 pg_RX4_33 (hk) ?_
  refine Ew.aload_n hx dX4_begin_49 rfl ?_
  refine Ew.iconst hx dX4_begin_50 k_iconst_0 ?_
  refine Ew.putI hx dX4_begin_51 pg_RX4_36 (hk) ?_
  refine Ew.aload_n hx dX4_begin_54 rfl ?_
  refine Ew.iconst hx dX4_begin_55 k_iconst_0 ?_
  refine Ew.putI hx dX4_begin_56 pg_RX4_39 (hk) ?_
  refine Ew.aload_n hx dX4_begin_59 rfl ?_
  refine Ew.iconst hx dX4_begin_60 k_iconst_0 ?_
  refine Ew.putI hx dX4_begin_61 pg_RX4_42 (hk) ?_
  refine Ew.aload_n hx dX4_begin_64 rfl ?_
  refine Ew.iconst hx dX4_begin_65 k_iconst_0 ?_
  refine Ew.putZ hx dX4_begin_66 pg_RX4_45 (hk) (by decide) ?_
  refine Ew.vret hx hq dX4_begin_69 rfl ?_
  refine ⟨rfl, ?_⟩
  simp only [mup_rs, rs_same, rs_rs, bgF]
set_option maxHeartbeats 4000000 in
set_option maxRecDepth 100000 in
theorem ct_X4_daysToCome (G : GT) (V : Mm) (k : Nat) (t : Int32) (hk : kd k = 10) : Ct G mX4_daysToCome 0 [adr G k, .int t] (V) (Ri (dtcI (V k 1) (V k 2) (V k 11) t) V) := by
  refine Ct.of cf_X4_daysToCome (List.forall_mem_cons.mpr ⟨rfl, List.forall_mem_cons.mpr ⟨rfl, fun _ h => absurd h List.not_mem_nil⟩⟩) (Nat.le_of_ble_eq_true rfl) (l0 := [some (adr G k), some (.int t), none]) rfl (fun C hx hq => ?_)
  refine Ew.aload_n hx dX4_daysToCome_0 rfl ?_
  refine Ew.getI hx dX4_daysToCome_1 fg_RX4_15 (hk) ?_
  refine Ew.iload_n hx dX4_daysToCome_4 rfl ?_
  refine Ew.icmp_le hx (tgt := 15) dX4_daysToCome_5 rfl (fun h5 => ?_) (fun h5 => ?_)
  · have e5 : (if t < V k 1 then V k 1 else t) = t := if_neg (by simp only [il, ie] at *; omega)
    refine Ew.iload_n hx dX4_daysToCome_15 rfl ?_
    refine Ew.istore_n hx dX4_daysToCome_16 (by decide) rfl ?_
    refine Ew.aload_n hx dX4_daysToCome_17 rfl ?_
    refine Ew.getI hx dX4_daysToCome_18 fg_RX4_45 (hk) ?_
    refine Ew.if_ne hx (tgt := 32) dX4_daysToCome_21 rfl (fun h21 => ?_) (fun h21 => ?_)
    · refine Ew.iconst hx dX4_daysToCome_32 k_iconst_0 ?_
      refine Ew.goto hx (tgt := 44) dX4_daysToCome_33 rfl ?_
      refine Ew.iret hx hq dX4_daysToCome_44 rfl ?_
      refine ⟨congrArg (fun z => some (Value.int z)) ?_, rfl⟩
      rw [dtcI, e5]
      simp only [il, ie, ne_eq] at *
      first | (rw [if_pos h21]; done) | (rw [if_neg (by simp [h21])]; first | rw [if_pos (by omega)] | rw [if_neg (by omega)])
    · refine Ew.iload_n hx dX4_daysToCome_24 rfl ?_
      refine Ew.aload_n hx dX4_daysToCome_25 rfl ?_
      refine Ew.getI hx dX4_daysToCome_26 fg_RX4_18 (hk) ?_
      refine Ew.icmp_le hx (tgt := 36) dX4_daysToCome_29 rfl (fun h29 => ?_) (fun h29 => ?_)
      · refine Ew.aload_n hx dX4_daysToCome_36 rfl ?_
        refine Ew.getI hx dX4_daysToCome_37 fg_RX4_18 (hk) ?_
        refine Ew.iload_n hx dX4_daysToCome_40 rfl ?_
        refine Ew.isub hx dX4_daysToCome_41 ?_
        refine Ew.iconst hx dX4_daysToCome_42 k_iconst_1 ?_
        refine Ew.iadd hx dX4_daysToCome_43 ?_
        refine Ew.iret hx hq dX4_daysToCome_44 rfl ?_
        refine ⟨congrArg (fun z => some (Value.int z)) ?_, rfl⟩
        rw [dtcI, e5]
        simp only [il, ie, ne_eq] at *
        first | (rw [if_pos h21]; done) | (rw [if_neg (by simp [h21])]; first | rw [if_pos (by omega)] | rw [if_neg (by omega)])
      · refine Ew.iconst hx dX4_daysToCome_32 k_iconst_0 ?_
        refine Ew.goto hx (tgt := 44) dX4_daysToCome_33 rfl ?_
        refine Ew.iret hx hq dX4_daysToCome_44 rfl ?_
        refine ⟨congrArg (fun z => some (Value.int z)) ?_, rfl⟩
        rw [dtcI, e5]
        simp only [il, ie, ne_eq] at *
        first | (rw [if_pos h21]; done) | (rw [if_neg (by simp [h21])]; first | rw [if_pos (by omega)] | rw [if_neg (by omega)])
  · have e5 : (if t < V k 1 then V k 1 else t) = V k 1 := if_pos (by simp only [il, ie] at *; omega)
    refine Ew.aload_n hx dX4_daysToCome_8 rfl ?_
    refine Ew.getI hx dX4_daysToCome_9 fg_RX4_15 (hk) ?_
    refine Ew.goto hx (tgt := 16) dX4_daysToCome_12 rfl ?_
    refine Ew.istore_n hx dX4_daysToCome_16 (by decide) rfl ?_
    refine Ew.aload_n hx dX4_daysToCome_17 rfl ?_
    refine Ew.getI hx dX4_daysToCome_18 fg_RX4_45 (hk) ?_
    refine Ew.if_ne hx (tgt := 32) dX4_daysToCome_21 rfl (fun h21 => ?_) (fun h21 => ?_)
    · refine Ew.iconst hx dX4_daysToCome_32 k_iconst_0 ?_
      refine Ew.goto hx (tgt := 44) dX4_daysToCome_33 rfl ?_
      refine Ew.iret hx hq dX4_daysToCome_44 rfl ?_
      refine ⟨congrArg (fun z => some (Value.int z)) ?_, rfl⟩
      rw [dtcI, e5]
      simp only [il, ie, ne_eq] at *
      first | (rw [if_pos h21]; done) | (rw [if_neg (by simp [h21])]; first | rw [if_pos (by omega)] | rw [if_neg (by omega)])
    · refine Ew.iload_n hx dX4_daysToCome_24 rfl ?_
      refine Ew.aload_n hx dX4_daysToCome_25 rfl ?_
      refine Ew.getI hx dX4_daysToCome_26 fg_RX4_18 (hk) ?_
      refine Ew.icmp_le hx (tgt := 36) dX4_daysToCome_29 rfl (fun h29 => ?_) (fun h29 => ?_)
      · refine Ew.aload_n hx dX4_daysToCome_36 rfl ?_
        refine Ew.getI hx dX4_daysToCome_37 fg_RX4_18 (hk) ?_
        refine Ew.iload_n hx dX4_daysToCome_40 rfl ?_
        refine Ew.isub hx dX4_daysToCome_41 ?_
        refine Ew.iconst hx dX4_daysToCome_42 k_iconst_1 ?_
        refine Ew.iadd hx dX4_daysToCome_43 ?_
        refine Ew.iret hx hq dX4_daysToCome_44 rfl ?_
        refine ⟨congrArg (fun z => some (Value.int z)) ?_, rfl⟩
        rw [dtcI, e5]
        simp only [il, ie, ne_eq] at *
        first | (rw [if_pos h21]; done) | (rw [if_neg (by simp [h21])]; first | rw [if_pos (by omega)] | rw [if_neg (by omega)])
      · refine Ew.iconst hx dX4_daysToCome_32 k_iconst_0 ?_
        refine Ew.goto hx (tgt := 44) dX4_daysToCome_33 rfl ?_
        refine Ew.iret hx hq dX4_daysToCome_44 rfl ?_
        refine ⟨congrArg (fun z => some (Value.int z)) ?_, rfl⟩
        rw [dtcI, e5]
        simp only [il, ie, ne_eq] at *
        first | (rw [if_pos h21]; done) | (rw [if_neg (by simp [h21])]; first | rw [if_pos (by omega)] | rw [if_neg (by omega)])
set_option maxHeartbeats 4000000 in
set_option maxRecDepth 100000 in
theorem ct_X4_comesOn (G : GT) (V : Mm) (k : Nat) (a t : Int32) (hk : kd k = 10) : Ct G mX4_comesOn 0 [adr G k, .int a, .int t] (V) (Ri (b2i (cmsP (V k 1) (V k 2) (V k 11) a t)) V) := by
  refine Ct.of cf_X4_comesOn (List.forall_mem_cons.mpr ⟨rfl, List.forall_mem_cons.mpr ⟨rfl, List.forall_mem_cons.mpr ⟨rfl, fun _ h => absurd h List.not_mem_nil⟩⟩⟩) (Nat.le_of_ble_eq_true rfl) (l0 := [some (adr G k), some (.int a), some (.int t)]) rfl (fun C hx hq => ?_)
  refine Ew.aload_n hx dX4_comesOn_0 rfl ?_
  refine Ew.getI hx dX4_comesOn_1 fg_RX4_45 (hk) ?_
  refine Ew.if_ne hx (tgt := 32) dX4_comesOn_4 rfl (fun h4 => ?_) (fun h4 => ?_)
  · refine Ew.iconst hx dX4_comesOn_32 k_iconst_0 ?_
    refine Ew.bret hx hq dX4_comesOn_33 rfl (by first | exact b2i_01 _ | decide) ?_
    refine ⟨congrArg (fun z => some (Value.int z)) ?_, rfl⟩
    first | exact (b2i_t (by simp only [cmsP, il, ie, iq] at *; omega)).symm | exact (b2i_f (by simp only [cmsP, il, ie, iq] at *; omega)).symm
  · refine Ew.iload_n hx dX4_comesOn_7 rfl ?_
    refine Ew.iload_n hx dX4_comesOn_8 rfl ?_
    refine Ew.icmp_lt hx (tgt := 32) dX4_comesOn_9 rfl (fun h9 => ?_) (fun h9 => ?_)
    · refine Ew.iconst hx dX4_comesOn_32 k_iconst_0 ?_
      refine Ew.bret hx hq dX4_comesOn_33 rfl (by first | exact b2i_01 _ | decide) ?_
      refine ⟨congrArg (fun z => some (Value.int z)) ?_, rfl⟩
      first | exact (b2i_t (by simp only [cmsP, il, ie, iq] at *; omega)).symm | exact (b2i_f (by simp only [cmsP, il, ie, iq] at *; omega)).symm
    · refine Ew.iload_n hx dX4_comesOn_12 rfl ?_
      refine Ew.aload_n hx dX4_comesOn_13 rfl ?_
      refine Ew.getI hx dX4_comesOn_14 fg_RX4_15 (hk) ?_
      refine Ew.icmp_lt hx (tgt := 32) dX4_comesOn_17 rfl (fun h17 => ?_) (fun h17 => ?_)
      · refine Ew.iconst hx dX4_comesOn_32 k_iconst_0 ?_
        refine Ew.bret hx hq dX4_comesOn_33 rfl (by first | exact b2i_01 _ | decide) ?_
        refine ⟨congrArg (fun z => some (Value.int z)) ?_, rfl⟩
        first | exact (b2i_t (by simp only [cmsP, il, ie, iq] at *; omega)).symm | exact (b2i_f (by simp only [cmsP, il, ie, iq] at *; omega)).symm
      · refine Ew.iload_n hx dX4_comesOn_20 rfl ?_
        refine Ew.aload_n hx dX4_comesOn_21 rfl ?_
        refine Ew.getI hx dX4_comesOn_22 fg_RX4_18 (hk) ?_
        refine Ew.icmp_gt hx (tgt := 32) dX4_comesOn_25 rfl (fun h25 => ?_) (fun h25 => ?_)
        · refine Ew.iconst hx dX4_comesOn_32 k_iconst_0 ?_
          refine Ew.bret hx hq dX4_comesOn_33 rfl (by first | exact b2i_01 _ | decide) ?_
          refine ⟨congrArg (fun z => some (Value.int z)) ?_, rfl⟩
          first | exact (b2i_t (by simp only [cmsP, il, ie, iq] at *; omega)).symm | exact (b2i_f (by simp only [cmsP, il, ie, iq] at *; omega)).symm
        · refine Ew.iconst hx dX4_comesOn_28 k_iconst_1 ?_
          refine Ew.goto hx (tgt := 33) dX4_comesOn_29 rfl ?_
          refine Ew.bret hx hq dX4_comesOn_33 rfl (by first | exact b2i_01 _ | decide) ?_
          refine ⟨congrArg (fun z => some (Value.int z)) ?_, rfl⟩
          first | exact (b2i_t (by simp only [cmsP, il, ie, iq] at *; omega)).symm | exact (b2i_f (by simp only [cmsP, il, ie, iq] at *; omega)).symm
set_option maxHeartbeats 4000000 in
set_option maxRecDepth 100000 in
theorem ct_X4_moveTo (G : GT) (V : Mm) (k : Nat) (nr nf dd : Int32) (hk : kd k = 10) : Ct G mX4_moveTo 0 [adr G k, .int nr, .int nf, .int dd] (V) (Ri ((nf - V k 4) * dd) (rs V k (mvF (V k) nr nf ((nf - V k 4) * dd)))) := by
  refine Ct.of cf_X4_moveTo (List.forall_mem_cons.mpr ⟨rfl, List.forall_mem_cons.mpr ⟨rfl, List.forall_mem_cons.mpr ⟨rfl, List.forall_mem_cons.mpr ⟨rfl, fun _ h => absurd h List.not_mem_nil⟩⟩⟩⟩) (Nat.le_of_ble_eq_true rfl) (l0 := [some (adr G k), some (.int nr), some (.int nf), some (.int dd), none]) rfl (fun C hx hq => ?_)
  refine Ew.iload_n hx dX4_moveTo_0 rfl ?_
  refine Ew.aload_n hx dX4_moveTo_1 rfl ?_
  refine Ew.getI hx dX4_moveTo_2 fg_RX4_24 (hk) ?_
  refine Ew.isub hx dX4_moveTo_5 ?_
  refine Ew.iload_n hx dX4_moveTo_6 rfl ?_
  refine Ew.imul hx dX4_moveTo_7 ?_
  refine Ew.istore hx dX4_moveTo_8 (by decide) rfl ?_
  refine Ew.iload hx dX4_moveTo_10 rfl ?_
  refine Ew.if_le hx (tgt := 29) dX4_moveTo_12 rfl (fun h12 => ?_) (fun h12 => ?_)
  · refine Ew.aload_n hx dX4_moveTo_29 rfl ?_
    refine Ew.dup hx dX4_moveTo_30 rfl ?_
    refine Ew.getI hx dX4_moveTo_31 fg_RX4_33 (hk) ?_
    refine Ew.iload hx dX4_moveTo_34 rfl ?_
    refine Ew.isub hx dX4_moveTo_36 ?_
    refine Ew.putI hx dX4_moveTo_37 pg_RX4_33 (hk) ?_
    refine Ew.aload_n hx dX4_moveTo_40 rfl ?_
    refine Ew.iload_n hx dX4_moveTo_41 rfl ?_
    refine Ew.putI hx dX4_moveTo_42 pg_RX4_9 (hk) ?_
    refine Ew.aload_n hx dX4_moveTo_45 rfl ?_
    refine Ew.iload_n hx dX4_moveTo_46 rfl ?_
    refine Ew.putI hx dX4_moveTo_47 pg_RX4_24 (hk) ?_
    refine Ew.iload hx dX4_moveTo_50 rfl ?_
    refine Ew.iret hx hq dX4_moveTo_52 rfl ?_
    refine ⟨rfl, ?_⟩
    simp only [il, ie] at h12
    simp only [mup_rs, rs_same, rs_rs, mvF]
    first | rw [if_pos (by rw [il]; omega)] | rw [if_neg (by rw [il]; omega)]
  · refine Ew.aload_n hx dX4_moveTo_15 rfl ?_
    refine Ew.dup hx dX4_moveTo_16 rfl ?_
    refine Ew.getI hx dX4_moveTo_17 fg_RX4_27 (hk) ?_
    refine Ew.iload hx dX4_moveTo_20 rfl ?_
    refine Ew.iadd hx dX4_moveTo_22 ?_
    refine Ew.putI hx dX4_moveTo_23 pg_RX4_27 (hk) ?_
    refine Ew.goto hx (tgt := 40) dX4_moveTo_26 rfl ?_
    refine Ew.aload_n hx dX4_moveTo_40 rfl ?_
    refine Ew.iload_n hx dX4_moveTo_41 rfl ?_
    refine Ew.putI hx dX4_moveTo_42 pg_RX4_9 (hk) ?_
    refine Ew.aload_n hx dX4_moveTo_45 rfl ?_
    refine Ew.iload_n hx dX4_moveTo_46 rfl ?_
    refine Ew.putI hx dX4_moveTo_47 pg_RX4_24 (hk) ?_
    refine Ew.iload hx dX4_moveTo_50 rfl ?_
    refine Ew.iret hx hq dX4_moveTo_52 rfl ?_
    refine ⟨rfl, ?_⟩
    simp only [il, ie] at h12
    simp only [mup_rs, rs_same, rs_rs, mvF]
    first | rw [if_pos (by rw [il]; omega)] | rw [if_neg (by rw [il]; omega)]
set_option maxHeartbeats 4000000 in
set_option maxRecDepth 100000 in
theorem ct_X4_cancelDays (G : GT) (V : Mm) (k : Nat) (op cl : Int32) (hk : kd k = 10) : Ct G mX4_cancelDays 0 [adr G k, .int op, .int cl] (V) (Ri (cnO (V k) op cl) (rs V k (cnF (V k) op cl))) := by
  refine Ct.of cf_X4_cancelDays (List.forall_mem_cons.mpr ⟨rfl, List.forall_mem_cons.mpr ⟨rfl, List.forall_mem_cons.mpr ⟨rfl, fun _ h => absurd h List.not_mem_nil⟩⟩⟩) (Nat.le_of_ble_eq_true rfl) (l0 := [some (adr G k), some (.int op), some (.int cl), none, none]) rfl (fun C hx hq => ?_)
  refine Ew.aload_n hx dX4_cancelDays_0 rfl ?_
  refine Ew.getI hx dX4_cancelDays_1 fg_RX4_24 (hk) ?_
  refine Ew.iconst hx dX4_cancelDays_4 k_iconst_2 ?_
  refine Ew.idiv hx dX4_cancelDays_5 (by decide) ?_
  refine Ew.istore_n hx dX4_cancelDays_6 (by decide) rfl ?_
  refine Ew.iload_n hx dX4_cancelDays_7 rfl ?_
  refine Ew.aload_n hx dX4_cancelDays_8 rfl ?_
  refine Ew.getI hx dX4_cancelDays_9 fg_RX4_24 (hk) ?_
  refine Ew.imul hx dX4_cancelDays_12 ?_
  refine Ew.iload_n hx dX4_cancelDays_13 rfl ?_
  refine Ew.iload_n hx dX4_cancelDays_14 rfl ?_
  refine Ew.imul hx dX4_cancelDays_15 ?_
  refine Ew.iadd hx dX4_cancelDays_16 ?_
  refine Ew.istore hx dX4_cancelDays_17 (by decide) rfl ?_
  refine Ew.aload_n hx dX4_cancelDays_19 rfl ?_
  refine Ew.dup hx dX4_cancelDays_20 rfl ?_
  refine Ew.getI hx dX4_cancelDays_21 fg_RX4_33 (hk) ?_
  refine Ew.iload hx dX4_cancelDays_24 rfl ?_
  refine Ew.iadd hx dX4_cancelDays_26 ?_
  refine Ew.putI hx dX4_cancelDays_27 pg_RX4_33 (hk) ?_
  refine Ew.aload_n hx dX4_cancelDays_30 rfl ?_
  refine Ew.dup hx dX4_cancelDays_31 rfl ?_
  refine Ew.getI hx dX4_cancelDays_32 fg_RX4_30 (hk) ?_
  refine Ew.iload_n hx dX4_cancelDays_35 rfl ?_
  refine Ew.aload_n hx dX4_cancelDays_36 rfl ?_
  refine Ew.getI hx dX4_cancelDays_37 fg_RX4_24 (hk) ?_
  refine Ew.iload_n hx dX4_cancelDays_40 rfl ?_
  refine Ew.isub hx dX4_cancelDays_41 ?_
  refine Ew.imul hx dX4_cancelDays_42 ?_
  refine Ew.iadd hx dX4_cancelDays_43 ?_
  refine Ew.putI hx dX4_cancelDays_44 pg_RX4_30 (hk) ?_
  refine Ew.aload_n hx dX4_cancelDays_47 rfl ?_
  refine Ew.iconst hx dX4_cancelDays_48 k_iconst_1 ?_
  refine Ew.putZ hx dX4_cancelDays_49 pg_RX4_45 (hk) (by decide) ?_
  refine Ew.iload hx dX4_cancelDays_52 rfl ?_
  refine Ew.iret hx hq dX4_cancelDays_54 rfl ?_
  refine ⟨rfl, ?_⟩
  simp [mup_rs, rs_same, rs_rs, upd, cnF, cnO]
set_option maxHeartbeats 4000000 in
set_option maxRecDepth 100000 in
theorem ct_X4_refundAll (G : GT) (V : Mm) (k : Nat) (hk : kd k = 10) : Ct G mX4_refundAll 0 [adr G k] (V) (Ri (V k 7) (rs V k (rfF (V k)))) := by
  refine Ct.of cf_X4_refundAll (List.forall_mem_cons.mpr ⟨rfl, fun _ h => absurd h List.not_mem_nil⟩) (Nat.le_of_ble_eq_true rfl) (l0 := [some (adr G k), none]) rfl (fun C hx hq => ?_)
  refine Ew.aload_n hx dX4_refundAll_0 rfl ?_
  refine Ew.getI hx dX4_refundAll_1 fg_RX4_33 (hk) ?_
  refine Ew.istore_n hx dX4_refundAll_4 (by decide) rfl ?_
  refine Ew.aload_n hx dX4_refundAll_5 rfl ?_
  refine Ew.dup hx dX4_refundAll_6 rfl ?_
  refine Ew.getI hx dX4_refundAll_7 fg_RX4_36 (hk) ?_
  refine Ew.iload_n hx dX4_refundAll_10 rfl ?_
  refine Ew.iadd hx dX4_refundAll_11 ?_
  refine Ew.putI hx dX4_refundAll_12 pg_RX4_36 (hk) ?_
  refine Ew.aload_n hx dX4_refundAll_15 rfl ?_
  refine Ew.iconst hx dX4_refundAll_16 k_iconst_0 ?_
  refine Ew.putI hx dX4_refundAll_17 pg_RX4_33 (hk) ?_
  refine Ew.iload_n hx dX4_refundAll_20 rfl ?_
  refine Ew.iret hx hq dX4_refundAll_21 rfl ?_
  refine ⟨rfl, ?_⟩
  simp [mup_rs, rs_same, rs_rs, upd, rfF]
set_option maxHeartbeats 4000000 in
set_option maxRecDepth 100000 in
theorem ct_X4_useDay (G : GT) (V : Mm) (k : Nat) (hk : kd k = 10) : Ct G mX4_useDay 0 [adr G k] (V) (Rv (rs V k (usF (V k)))) := by
  refine Ct.of cf_X4_useDay (List.forall_mem_cons.mpr ⟨rfl, fun _ h => absurd h List.not_mem_nil⟩) (Nat.le_of_ble_eq_true rfl) (l0 := [some (adr G k)]) rfl (fun C hx hq => ?_)
  refine Ew.aload_n hx dX4_useDay_0 rfl ?_
  refine Ew.dup hx dX4_useDay_1 rfl ?_
  refine Ew.getI hx dX4_useDay_2 fg_RX4_39 (hk) ?_
  refine Ew.iconst hx dX4_useDay_5 k_iconst_1 ?_
  refine Ew.iadd hx dX4_useDay_6 ?_
  refine Ew.putI hx dX4_useDay_7 pg_RX4_39 (hk) ?_
  refine Ew.aload_n hx dX4_useDay_10 rfl ?_
  refine Ew.dup hx dX4_useDay_11 rfl ?_
  refine Ew.getI hx dX4_useDay_12 fg_RX4_30 (hk) ?_
  refine Ew.aload_n hx dX4_useDay_15 rfl ?_
  refine Ew.getI hx dX4_useDay_16 fg_RX4_24 (hk) ?_
  refine Ew.iadd hx dX4_useDay_19 ?_
  refine Ew.putI hx dX4_useDay_20 pg_RX4_30 (hk) ?_
  refine Ew.vret hx hq dX4_useDay_23 rfl ?_
  refine ⟨rfl, ?_⟩
  simp [mup_rs, rs_same, rs_rs, upd, usF]
set_option maxHeartbeats 4000000 in
set_option maxRecDepth 100000 in
theorem ct_X4_loseDay (G : GT) (V : Mm) (k : Nat) (hk : kd k = 10) : Ct G mX4_loseDay 0 [adr G k] (V) (Rv (rs V k (loF (V k)))) := by
  refine Ct.of cf_X4_loseDay (List.forall_mem_cons.mpr ⟨rfl, fun _ h => absurd h List.not_mem_nil⟩) (Nat.le_of_ble_eq_true rfl) (l0 := [some (adr G k)]) rfl (fun C hx hq => ?_)
  refine Ew.aload_n hx dX4_loseDay_0 rfl ?_
  refine Ew.dup hx dX4_loseDay_1 rfl ?_
  refine Ew.getI hx dX4_loseDay_2 fg_RX4_42 (hk) ?_
  refine Ew.iconst hx dX4_loseDay_5 k_iconst_1 ?_
  refine Ew.iadd hx dX4_loseDay_6 ?_
  refine Ew.putI hx dX4_loseDay_7 pg_RX4_42 (hk) ?_
  refine Ew.aload_n hx dX4_loseDay_10 rfl ?_
  refine Ew.dup hx dX4_loseDay_11 rfl ?_
  refine Ew.getI hx dX4_loseDay_12 fg_RX4_33 (hk) ?_
  refine Ew.aload_n hx dX4_loseDay_15 rfl ?_
  refine Ew.getI hx dX4_loseDay_16 fg_RX4_24 (hk) ?_
  refine Ew.iadd hx dX4_loseDay_19 ?_
  refine Ew.putI hx dX4_loseDay_20 pg_RX4_33 (hk) ?_
  refine Ew.vret hx hq dX4_loseDay_23 rfl ?_
  refine ⟨rfl, ?_⟩
  simp [mup_rs, rs_same, rs_rs, upd, loF]
set_option maxHeartbeats 4000000 in
set_option maxRecDepth 100000 in
theorem ct_X4_copyFrom (G : GT) (V : Mm) (k q : Nat) (hk : kd k = 10) (hq2 : kd q = 10) (hkq : q ≠ k) (h01 : V q 11 = 0 ∨ V q 11 = 1) : Ct G mX4_copyFrom 0 [adr G k, adr G q] (V) (Rv (rs V k (cpF (V k) (V q) 12))) := by
  refine Ct.of cf_X4_copyFrom (List.forall_mem_cons.mpr ⟨rfl, List.forall_mem_cons.mpr ⟨rfl, fun _ h => absurd h List.not_mem_nil⟩⟩) (Nat.le_of_ble_eq_true rfl) (l0 := [some (adr G k), some (adr G q)]) rfl (fun C hx hq => ?_)
  refine Ew.aload_n hx dX4_copyFrom_0 rfl ?_
  refine Ew.aload_n hx dX4_copyFrom_1 rfl ?_
  refine Ew.getI hx dX4_copyFrom_2 fg_RX4_9 (hq2) ?_
  refine Ew.putI hx dX4_copyFrom_5 pg_RX4_9 (hk) ?_
  refine Ew.aload_n hx dX4_copyFrom_8 rfl ?_
  refine Ew.aload_n hx dX4_copyFrom_9 rfl ?_
  refine Ew.getI hx dX4_copyFrom_10 fg_RX4_15 (hq2) ?_
  refine Ew.putI hx dX4_copyFrom_13 pg_RX4_15 (hk) ?_
  refine Ew.aload_n hx dX4_copyFrom_16 rfl ?_
  refine Ew.aload_n hx dX4_copyFrom_17 rfl ?_
  refine Ew.getI hx dX4_copyFrom_18 fg_RX4_18 (hq2) ?_
  refine Ew.putI hx dX4_copyFrom_21 pg_RX4_18 (hk) ?_
  refine Ew.aload_n hx dX4_copyFrom_24 rfl ?_
  refine Ew.aload_n hx dX4_copyFrom_25 rfl ?_
  refine Ew.getI hx dX4_copyFrom_26 fg_RX4_21 (hq2) ?_
  refine Ew.putI hx dX4_copyFrom_29 pg_RX4_21 (hk) ?_
  refine Ew.aload_n hx dX4_copyFrom_32 rfl ?_
  refine Ew.aload_n hx dX4_copyFrom_33 rfl ?_
  refine Ew.getI hx dX4_copyFrom_34 fg_RX4_24 (hq2) ?_
  refine Ew.putI hx dX4_copyFrom_37 pg_RX4_24 (hk) ?_
  refine Ew.aload_n hx dX4_copyFrom_40 rfl ?_
  refine Ew.aload_n hx dX4_copyFrom_41 rfl ?_
  refine Ew.getI hx dX4_copyFrom_42 fg_RX4_27 (hq2) ?_
  refine Ew.putI hx dX4_copyFrom_45 pg_RX4_27 (hk) ?_
  refine Ew.aload_n hx dX4_copyFrom_48 rfl ?_
  refine Ew.aload_n hx dX4_copyFrom_49 rfl ?_
  refine Ew.getI hx dX4_copyFrom_50 fg_RX4_30 (hq2) ?_
  refine Ew.putI hx dX4_copyFrom_53 pg_RX4_30 (hk) ?_
  refine Ew.aload_n hx dX4_copyFrom_56 rfl ?_
  refine Ew.aload_n hx dX4_copyFrom_57 rfl ?_
  refine Ew.getI hx dX4_copyFrom_58 fg_RX4_33 (hq2) ?_
  refine Ew.putI hx dX4_copyFrom_61 pg_RX4_33 (hk) ?_
  refine Ew.aload_n hx dX4_copyFrom_64 rfl ?_
  refine Ew.aload_n hx dX4_copyFrom_65 rfl ?_
  refine Ew.getI hx dX4_copyFrom_66 fg_RX4_36 (hq2) ?_
  refine Ew.putI hx dX4_copyFrom_69 pg_RX4_36 (hk) ?_
  refine Ew.aload_n hx dX4_copyFrom_72 rfl ?_
  refine Ew.aload_n hx dX4_copyFrom_73 rfl ?_
  refine Ew.getI hx dX4_copyFrom_74 fg_RX4_39 (hq2) ?_
  refine Ew.putI hx dX4_copyFrom_77 pg_RX4_39 (hk) ?_
  refine Ew.aload_n hx dX4_copyFrom_80 rfl ?_
  refine Ew.aload_n hx dX4_copyFrom_81 rfl ?_
  refine Ew.getI hx dX4_copyFrom_82 fg_RX4_42 (hq2) ?_
  refine Ew.putI hx dX4_copyFrom_85 pg_RX4_42 (hk) ?_
  refine Ew.aload_n hx dX4_copyFrom_88 rfl ?_
  refine Ew.aload_n hx dX4_copyFrom_89 rfl ?_
  refine Ew.getI hx dX4_copyFrom_90 fg_RX4_45 (hq2) ?_
  refine Ew.putZ hx dX4_copyFrom_93 pg_RX4_45 (hk) (by simp only [mup_rs, rs_ne _ _ hkq]; exact h01) ?_
  refine Ew.vret hx hq dX4_copyFrom_96 rfl ?_
  refine ⟨rfl, ?_⟩
  simp only [mup_rs, rs_same, rs_rs, rs_ne V _ hkq]
  congr 1
  funext j
  simp only [cpF, upd]
  repeat' split
  all_goals first | rfl | omega | (subst_vars; rfl)
def prI (f : Nat → Int32) (w t : Int32) : Int32 := if w.toInt < 0 ∨ 13 ≤ w.toInt then -100001 else if w = 11 then dtcI (f 1) (f 2) (f 11) t else f (if w = 12 then 11 else w.toNatClampNeg)
theorem sp13 (w : Int32) : w = 0 ∨ w = 1 ∨ w = 2 ∨ w = 3 ∨ w = 4 ∨ w = 5 ∨ w = 6 ∨ w = 7 ∨ w = 8 ∨ w = 9 ∨ w = 10 ∨ w = 11 ∨ w = 12 ∨ w = 13 ∨ (w.toInt < 0 ∨ 13 < w.toInt) := by
  simp only [iq, tl_0, tl_1, tl_2, tl_3, tl_4, tl_5, tl_6, tl_7, tl_8, tl_9, tl_10, tl_11, tl_12, tl_13]
  omega
set_option maxHeartbeats 4000000 in
set_option maxRecDepth 100000 in
theorem ct_X4_property (G : GT) (V : Mm) (k : Nat) (w t : Int32) (hk : kd k = 10) (h01 : V k 11 = 0 ∨ V k 11 = 1) : Ct G mX4_property 1 [adr G k, .int w, .int t] (V) (Ri (prI (V k) w t) V) := by
  refine Ct.of cf_X4_property (List.forall_mem_cons.mpr ⟨rfl, List.forall_mem_cons.mpr ⟨rfl, List.forall_mem_cons.mpr ⟨rfl, fun _ h => absurd h List.not_mem_nil⟩⟩⟩) (Nat.le_of_ble_eq_true rfl) (l0 := [some (adr G k), some (.int w), some (.int t)]) rfl (fun C hx hq => ?_)
  refine Ew.iload_n hx dX4_property_0 rfl ?_
  rcases sp13 w with rfl | rfl | rfl | rfl | rfl | rfl | rfl | rfl | rfl | rfl | rfl | rfl | rfl | rfl | hw
  · refine Ew.tswIn hx dX4_property_1 (by decide) (i := 0) (tgt := 68) rfl rfl ?_
    refine Ew.aload_n hx dX4_property_68 rfl ?_
    refine Ew.getI hx dX4_property_69 fg_RX4_9 (hk) ?_
    refine Ew.iret hx hq dX4_property_72 rfl ?_
    refine ⟨congrArg (fun z => some (Value.int z)) ?_, rfl⟩
    first | rfl | (rw [prI, if_pos (by omega)]; done) | (rcases h01 with h | h <;> simp_all [prI]; done) | exact (if_pos (by decide)).symm
  · refine Ew.tswIn hx dX4_property_1 (by decide) (i := 1) (tgt := 73) rfl rfl ?_
    refine Ew.aload_n hx dX4_property_73 rfl ?_
    refine Ew.getI hx dX4_property_74 fg_RX4_15 (hk) ?_
    refine Ew.iret hx hq dX4_property_77 rfl ?_
    refine ⟨congrArg (fun z => some (Value.int z)) ?_, rfl⟩
    first | rfl | (rw [prI, if_pos (by omega)]; done) | (rcases h01 with h | h <;> simp_all [prI]; done) | exact (if_pos (by decide)).symm
  · refine Ew.tswIn hx dX4_property_1 (by decide) (i := 2) (tgt := 78) rfl rfl ?_
    refine Ew.aload_n hx dX4_property_78 rfl ?_
    refine Ew.getI hx dX4_property_79 fg_RX4_18 (hk) ?_
    refine Ew.iret hx hq dX4_property_82 rfl ?_
    refine ⟨congrArg (fun z => some (Value.int z)) ?_, rfl⟩
    first | rfl | (rw [prI, if_pos (by omega)]; done) | (rcases h01 with h | h <;> simp_all [prI]; done) | exact (if_pos (by decide)).symm
  · refine Ew.tswIn hx dX4_property_1 (by decide) (i := 3) (tgt := 83) rfl rfl ?_
    refine Ew.aload_n hx dX4_property_83 rfl ?_
    refine Ew.getI hx dX4_property_84 fg_RX4_21 (hk) ?_
    refine Ew.iret hx hq dX4_property_87 rfl ?_
    refine ⟨congrArg (fun z => some (Value.int z)) ?_, rfl⟩
    first | rfl | (rw [prI, if_pos (by omega)]; done) | (rcases h01 with h | h <;> simp_all [prI]; done) | exact (if_pos (by decide)).symm
  · refine Ew.tswIn hx dX4_property_1 (by decide) (i := 4) (tgt := 88) rfl rfl ?_
    refine Ew.aload_n hx dX4_property_88 rfl ?_
    refine Ew.getI hx dX4_property_89 fg_RX4_24 (hk) ?_
    refine Ew.iret hx hq dX4_property_92 rfl ?_
    refine ⟨congrArg (fun z => some (Value.int z)) ?_, rfl⟩
    first | rfl | (rw [prI, if_pos (by omega)]; done) | (rcases h01 with h | h <;> simp_all [prI]; done) | exact (if_pos (by decide)).symm
  · refine Ew.tswIn hx dX4_property_1 (by decide) (i := 5) (tgt := 93) rfl rfl ?_
    refine Ew.aload_n hx dX4_property_93 rfl ?_
    refine Ew.getI hx dX4_property_94 fg_RX4_27 (hk) ?_
    refine Ew.iret hx hq dX4_property_97 rfl ?_
    refine ⟨congrArg (fun z => some (Value.int z)) ?_, rfl⟩
    first | rfl | (rw [prI, if_pos (by omega)]; done) | (rcases h01 with h | h <;> simp_all [prI]; done) | exact (if_pos (by decide)).symm
  · refine Ew.tswIn hx dX4_property_1 (by decide) (i := 6) (tgt := 98) rfl rfl ?_
    refine Ew.aload_n hx dX4_property_98 rfl ?_
    refine Ew.getI hx dX4_property_99 fg_RX4_30 (hk) ?_
    refine Ew.iret hx hq dX4_property_102 rfl ?_
    refine ⟨congrArg (fun z => some (Value.int z)) ?_, rfl⟩
    first | rfl | (rw [prI, if_pos (by omega)]; done) | (rcases h01 with h | h <;> simp_all [prI]; done) | exact (if_pos (by decide)).symm
  · refine Ew.tswIn hx dX4_property_1 (by decide) (i := 7) (tgt := 103) rfl rfl ?_
    refine Ew.aload_n hx dX4_property_103 rfl ?_
    refine Ew.getI hx dX4_property_104 fg_RX4_33 (hk) ?_
    refine Ew.iret hx hq dX4_property_107 rfl ?_
    refine ⟨congrArg (fun z => some (Value.int z)) ?_, rfl⟩
    first | rfl | (rw [prI, if_pos (by omega)]; done) | (rcases h01 with h | h <;> simp_all [prI]; done) | exact (if_pos (by decide)).symm
  · refine Ew.tswIn hx dX4_property_1 (by decide) (i := 8) (tgt := 108) rfl rfl ?_
    refine Ew.aload_n hx dX4_property_108 rfl ?_
    refine Ew.getI hx dX4_property_109 fg_RX4_36 (hk) ?_
    refine Ew.iret hx hq dX4_property_112 rfl ?_
    refine ⟨congrArg (fun z => some (Value.int z)) ?_, rfl⟩
    first | rfl | (rw [prI, if_pos (by omega)]; done) | (rcases h01 with h | h <;> simp_all [prI]; done) | exact (if_pos (by decide)).symm
  · refine Ew.tswIn hx dX4_property_1 (by decide) (i := 9) (tgt := 113) rfl rfl ?_
    refine Ew.aload_n hx dX4_property_113 rfl ?_
    refine Ew.getI hx dX4_property_114 fg_RX4_39 (hk) ?_
    refine Ew.iret hx hq dX4_property_117 rfl ?_
    refine ⟨congrArg (fun z => some (Value.int z)) ?_, rfl⟩
    first | rfl | (rw [prI, if_pos (by omega)]; done) | (rcases h01 with h | h <;> simp_all [prI]; done) | exact (if_pos (by decide)).symm
  · refine Ew.tswIn hx dX4_property_1 (by decide) (i := 10) (tgt := 118) rfl rfl ?_
    refine Ew.aload_n hx dX4_property_118 rfl ?_
    refine Ew.getI hx dX4_property_119 fg_RX4_42 (hk) ?_
    refine Ew.iret hx hq dX4_property_122 rfl ?_
    refine ⟨congrArg (fun z => some (Value.int z)) ?_, rfl⟩
    first | rfl | (rw [prI, if_pos (by omega)]; done) | (rcases h01 with h | h <;> simp_all [prI]; done) | exact (if_pos (by decide)).symm
  · refine Ew.tswIn hx dX4_property_1 (by decide) (i := 11) (tgt := 123) rfl rfl ?_
    refine Ew.aload_n hx dX4_property_123 rfl ?_
    refine Ew.iload_n hx dX4_property_124 rfl ?_
    refine Ew.callV2 (y' := mX4_daysToCome) hx dX4_property_125 ml_RX4_51 cf_X4_daysToCome cv_X4_daysToCome (ct_X4_daysToCome G _ _ _ hk) (hk) oc_10 rfl (by decide) (by decide) rfl (Nat.le_of_ble_eq_true rfl) ?_
    rintro _ V9 ⟨rfl, h9⟩; subst V9
    refine Ew.iret hx hq dX4_property_128 rfl ?_
    refine ⟨congrArg (fun z => some (Value.int z)) ?_, rfl⟩
    first | rfl | (rw [prI, if_pos (by omega)]; done) | (rcases h01 with h | h <;> simp_all [prI]; done) | exact (if_pos (by decide)).symm
  · refine Ew.tswIn hx dX4_property_1 (by decide) (i := 12) (tgt := 129) rfl rfl ?_
    refine Ew.aload_n hx dX4_property_129 rfl ?_
    refine Ew.getI hx dX4_property_130 fg_RX4_45 (hk) ?_
    refine Ew.if_eq hx (tgt := 140) dX4_property_133 rfl (fun h133 => ?_) (fun h133 => ?_)
    · refine Ew.iconst hx dX4_property_140 k_iconst_0 ?_
      refine Ew.iret hx hq dX4_property_141 rfl ?_
      refine ⟨congrArg (fun z => some (Value.int z)) ?_, rfl⟩
      first | rfl | (rw [prI, if_pos (by omega)]; done) | (rcases h01 with h | h <;> simp_all [prI]; done) | exact (if_pos (by decide)).symm
    · refine Ew.iconst hx dX4_property_136 k_iconst_1 ?_
      refine Ew.goto hx (tgt := 141) dX4_property_137 rfl ?_
      refine Ew.iret hx hq dX4_property_141 rfl ?_
      refine ⟨congrArg (fun z => some (Value.int z)) ?_, rfl⟩
      first | rfl | (rw [prI, if_pos (by omega)]; done) | (rcases h01 with h | h <;> simp_all [prI]; done) | exact (if_pos (by decide)).symm
  · refine Ew.tswOut hx dX4_property_1 (by first | decide | omega) (tgt := 142) rfl ?_
    refine Ew.ldc hx dX4_property_142 kn_RX4_55 ?_
    refine Ew.iret hx hq dX4_property_144 rfl ?_
    refine ⟨congrArg (fun z => some (Value.int z)) ?_, rfl⟩
    first | rfl | (rw [prI, if_pos (by omega)]; done) | (rcases h01 with h | h <;> simp_all [prI]; done) | exact (if_pos (by decide)).symm
  · refine Ew.tswOut hx dX4_property_1 (by first | decide | omega) (tgt := 142) rfl ?_
    refine Ew.ldc hx dX4_property_142 kn_RX4_55 ?_
    refine Ew.iret hx hq dX4_property_144 rfl ?_
    refine ⟨congrArg (fun z => some (Value.int z)) ?_, rfl⟩
    first | rfl | (rw [prI, if_pos (by omega)]; done) | (rcases h01 with h | h <;> simp_all [prI]; done) | exact (if_pos (by decide)).symm
