theorem nI_sb {a b : Nat} (h : a ≤ b) : nI b - nI a = nI (b - a) := by
  have q := nI_add (b - a) a
  rw [Nat.sub_add_cancel h] at q
  rw [← q]
  exact Int32.add_sub_cancel _ _
def anAdd (ln : Nat) : Int32 := if ln < 140 then nI (ln + 1) else -100003
def txA (tx : Tx) (ln : Nat) (c : Int32) : Tx := if ln < 140 then upd tx ln c else tx
def lnA (ln : Nat) : Nat := if ln < 140 then ln + 1 else ln
def nvF (tx : Tx) : Nat → Nat → Int32 → Int32
  | 0, _, v => v
  | n + 1, i, v => nvF tx n (i + 1) (v * 10 + tx i - 48)
def numI (tx : Tx) (ln a b : Nat) : Int32 := if kA tx ln a = 2 ∧ b ≤ a + 4 ∧ ¬ (a + 1 < b ∧ tx a = 48) then nvF tx (b - a) a 0 else -1
theorem ch_ok {x : Int32} (h : 1 ≤ x ∧ x ≤ 255) : (x.toUInt32 % 65536).toInt32 = x ∧ vp_nar .char x = x := by
  have h1 := h.1
  have h2 := h.2
  rw [ie, show (1 : Int32).toInt = 1 by decide] at h1
  rw [ie, tl_255] at h2
  obtain ⟨n, hn, rfl⟩ : ∃ n : Nat, n < 256 ∧ x = nI n := ⟨x.toInt.toNat, by omega, ofNI (by omega)⟩
  refine ⟨?_, ?_⟩
  · rw [pk_char]
    congr 1
    exact (show ∀ n, n < 256 → (nI n).toBitVec.toNat % 65536 = n by decide +kernel) n hn
  · exact (show ∀ n, n < 256 → vp_nar .char (nI n) = nI n by decide +kernel) n hn
theorem TX_add {V : Mm} {tx : Tx} {ln : Nat} (h : TX V tx ln) (hl : ln < 140) (c : Int32) : TX (mup (mup V 530 ln c) 529 1 (nI (ln + 1))) (upd tx ln c) (ln + 1) := by
  refine ⟨mup_self _ _ _ _, by omega, fun i hi => ?_⟩
  rw [mup_oth _ _ _ _ (Or.inl (by decide))]
  by_cases q : i = ln
  · subst q
    rw [mup_self, upd_s]
  · rw [mup_oth _ _ _ _ (Or.inr q), upd_n _ _ q]
    exact h.2.2 i (by omega)
set_option maxHeartbeats 4000000 in
set_option maxRecDepth 100000 in
theorem ct_X9_add (G : GT) (V : Mm) {tx : Tx} {ln : Nat} (hT : TX V tx ln) {c : Int32} (hc : vp_nar .char c = c) : Ct G mX9_add 0 [adr G 529, .int c] (V) (fun v V9 => v = some (.int (anAdd ln)) ∧ Fr 529 531 V V9 ∧ TX V9 (txA tx ln c) (lnA ln) ∧ ∀ i, i ≠ 1 → V9 529 i = V 529 i) := by
  refine Ct.of cf_X9_add (List.forall_mem_cons.mpr ⟨rfl, List.forall_mem_cons.mpr ⟨rfl, fun _ h => absurd h List.not_mem_nil⟩⟩) (Nat.le_of_ble_eq_true rfl) (l0 := [some (adr G 529), some (.int c)]) rfl (fun C hx hq => ?_)
  have hl := hT.2.1
  refine Ew.aload_n hx dX9_add_0 rfl ?_
  refine Ew.getI hx dX9_add_1 fg_RX9_15 rfl ?_
  refine Ew.sipush hx dX9_add_4 k_sipush_140 ?_
  rw [hT.1]
  refine Ew.icmp_lt hx (tgt := 13) dX9_add_7 rfl (fun h7 => ?_) (fun h7 => ?_)
  · have h7b : ln < 140 := by rw [il, tn (by omega), tl_140] at h7; omega
    refine Ew.aload_n hx dX9_add_13 rfl ?_
    refine Ew.getR (530) hx dX9_add_14 fg_RX9_9 rfl rfl ?_
    refine Ew.aload_n hx dX9_add_17 rfl ?_
    refine Ew.getI hx dX9_add_18 fg_RX9_15 rfl ?_
    refine Ew.iload_n hx dX9_add_21 rfl ?_
    refine Ew.cast (i := ln) hx dX9_add_22 ag_17 rfl (hT.1) (by omega) (hc) ?_
    refine Ew.aload_n hx dX9_add_23 rfl ?_
    refine Ew.dup hx dX9_add_24 rfl ?_
    refine Ew.getI hx dX9_add_25 fg_RX9_15 rfl ?_
    refine Ew.iconst hx dX9_add_28 k_iconst_1 ?_
    refine Ew.iadd hx dX9_add_29 ?_
    rw [mup_oth _ _ _ _ (Or.inl (by decide)), hT.1, nI_1]
    refine Ew.putI hx dX9_add_30 pg_RX9_15 rfl ?_
    refine Ew.aload_n hx dX9_add_33 rfl ?_
    refine Ew.getI hx dX9_add_34 fg_RX9_15 rfl ?_
    refine Ew.iret hx hq dX9_add_37 rfl ?_
    rw [mup_self]
    unfold anAdd txA lnA
    rw [if_pos h7b, if_pos h7b, if_pos h7b]
    exact ⟨rfl, fun k hk => by rw [mup_ne _ _ _ (by omega), mup_ne _ _ _ (by omega)], TX_add hT h7b c, fun i hi => by rw [mup_oth _ _ _ _ (Or.inr hi), mup_oth _ _ _ _ (Or.inl (by decide))]⟩
  · have h7b : ¬ ln < 140 := by rw [il, tn (by omega), tl_140] at h7; omega
    refine Ew.ldc hx dX9_add_10 kn_RX9_19 ?_
    refine Ew.iret hx hq dX9_add_12 rfl ?_
    unfold anAdd txA lnA
    rw [if_neg h7b, if_neg h7b, if_neg h7b]
    exact ⟨rfl, fun k hk => rfl, hT, fun i hi => rfl⟩
set_option maxHeartbeats 4000000 in
set_option maxRecDepth 100000 in
theorem ct_X9_empty (G : GT) (V : Mm)  : Ct G mX9_empty 0 [adr G 529] (V) (fun v V9 => v = some (.int (V 529 1)) ∧ V9 = mup V 529 1 0) := by
  refine Ct.of cf_X9_empty (List.forall_mem_cons.mpr ⟨rfl, fun _ h => absurd h List.not_mem_nil⟩) (Nat.le_of_ble_eq_true rfl) (l0 := [some (adr G 529), none]) rfl (fun C hx hq => ?_)
  refine Ew.aload_n hx dX9_empty_0 rfl ?_
  refine Ew.getI hx dX9_empty_1 fg_RX9_15 rfl ?_
  refine Ew.istore_n hx dX9_empty_4 (by decide) rfl ?_
  refine Ew.aload_n hx dX9_empty_5 rfl ?_
  refine Ew.iconst hx dX9_empty_6 k_iconst_0 ?_
  refine Ew.putI hx dX9_empty_7 pg_RX9_15 rfl ?_
  refine Ew.iload_n hx dX9_empty_10 rfl ?_
  refine Ew.iret hx hq dX9_empty_11 rfl ?_
  exact ⟨rfl, rfl⟩
set_option maxHeartbeats 4000000 in
set_option maxRecDepth 100000 in
theorem lp_X9_num {G : GT} {C : CT} {V : Mm} {tx : Tx} {ln : Nat} (hT : TX V tx ln) {a b d0 : Nat} (hb : b ≤ ln) (e3 : V 529 3 = nI b) {r : Int32} (hx : Cx G mX9_number 1 C) (hq : Cq G (Ri r V) C) : ∀ (n i : Nat), i + n = b → ∀ v, nvF tx n i v = r → Ew G C (V) 55 [some (adr G 529), some (.int (nI d0)), some (.int v), some (.int (nI i))] [] := by
  intro n
  induction n with
  | zero =>
    intro i hi v hv
    refine Ew.iload_n hx dX9_number_55 rfl ?_
    refine Ew.aload_n hx dX9_number_56 rfl ?_
    refine Ew.getI hx dX9_number_57 fg_RX9_20 rfl ?_
    have hl := hT.2.1
    rw [e3]
    refine Ew.icmp_ge_t hx (tgt := 92) dX9_number_60 rfl (nI_le (by omega) (by omega)) ?_
    refine Ew.iload_n hx dX9_number_92 rfl ?_
    refine Ew.iret hx hq dX9_number_93 rfl ?_
    refine ⟨congrArg (fun z => some (Value.int z)) ?_, rfl⟩
    exact hv
  | succ n ih =>
    intro i hi v hv
    refine Ew.iload_n hx dX9_number_55 rfl ?_
    refine Ew.aload_n hx dX9_number_56 rfl ?_
    refine Ew.getI hx dX9_number_57 fg_RX9_20 rfl ?_
    have hl := hT.2.1
    rw [e3]
    refine Ew.icmp_ge_f hx (tgt := 92) dX9_number_60 rfl (nI_ge (by omega) (by omega)) ?_
    refine Ew.iload_n hx dX9_number_63 rfl ?_
    refine Ew.aload_n hx dX9_number_64 rfl ?_
    refine Ew.getI hx dX9_number_65 fg_RX9_15 rfl ?_
    rw [hT.1]
    refine Ew.icmp_ge_f hx (tgt := 92) dX9_number_68 rfl (nI_ge (by omega) (by omega)) ?_
    refine Ew.iload_n hx dX9_number_71 rfl ?_
    refine Ew.bipush hx dX9_number_72 k_bipush_10 ?_
    refine Ew.imul hx dX9_number_74 ?_
    refine Ew.aload_n hx dX9_number_75 rfl ?_
    refine Ew.getR (530) hx dX9_number_76 fg_RX9_9 rfl rfl ?_
    refine Ew.iload_n hx dX9_number_79 rfl ?_
    refine Ew.cald (i := i) hx dX9_number_80 ag_17 rfl (rfl) (by omega) ?_
    rw [hT.2.2 i (by omega)]
    refine Ew.iadd hx dX9_number_81 ?_
    refine Ew.bipush hx dX9_number_82 k_bipush_48 ?_
    refine Ew.isub hx dX9_number_84 ?_
    refine Ew.istore_n hx dX9_number_85 (by decide) rfl ?_
    refine Ew.iinc hx dX9_number_86 rfl (k_iinc_1 _) (by decide) rfl ?_
    refine Ew.goto hx (tgt := 55) dX9_number_89 rfl ?_
    rw [nI_1]
    exact ih (i + 1) (by omega) _ hv
set_option maxHeartbeats 4000000 in
set_option maxRecDepth 100000 in
theorem ct_X9_number (G : GT) (V : Mm) {tx : Tx} {ln : Nat} (hT : TX V tx ln) {a b : Nat} (ha : a ≤ b) (hb : b ≤ ln) (e2 : V 529 2 = nI a) (e3 : V 529 3 = nI b) : Ct G mX9_number 1 [adr G 529] (V) (Ri (numI tx ln a b) V) := by
  refine Ct.of cf_X9_number (List.forall_mem_cons.mpr ⟨rfl, fun _ h => absurd h List.not_mem_nil⟩) (Nat.le_of_ble_eq_true rfl) (l0 := [some (adr G 529), none, none, none]) rfl (fun C hx hq => ?_)
  have hl := hT.2.1
  refine Ew.aload_n hx dX9_number_0 rfl ?_
  refine Ew.getI hx dX9_number_1 fg_RX9_20 rfl ?_
  refine Ew.aload_n hx dX9_number_4 rfl ?_
  refine Ew.getI hx dX9_number_5 fg_RX9_26 rfl ?_
  refine Ew.isub hx dX9_number_8 ?_
  rw [e2, e3, nI_sb ha]
  refine Ew.istore_n hx dX9_number_9 (by decide) rfl ?_
  refine Ew.aload_n hx dX9_number_10 rfl ?_
  refine Ew.aload_n hx dX9_number_11 rfl ?_
  refine Ew.getI hx dX9_number_12 fg_RX9_26 rfl ?_
  rw [e2]
  refine Ew.callV2 (y' := mX9_kindAt) hx dX9_number_15 ml_RX9_29 cf_X9_kindAt cv_X9_kindAt (ct_X9_kindAt G V hT (i := a) (by omega)) rfl oc_16 rfl (by decide) (by decide) rfl (Nat.le_of_ble_eq_true rfl) ?_
  rintro _ V9 ⟨rfl, h9⟩; subst V9
  refine Ew.iconst hx dX9_number_18 k_iconst_2 ?_
  have k3 := kA_123 tx ln a
  refine Ew.icmp_ne hx (tgt := 46) dX9_number_19 rfl (fun h19 => ?_) (fun h19 => ?_)
  · have ec : numI tx ln a b = -1 := if_neg (fun q => h19 (by rw [q.1]; rfl))
    refine Ew.iconst hx dX9_number_46 k_iconst_m1 ?_
    refine Ew.iret hx hq dX9_number_47 rfl ?_
    refine ⟨congrArg (fun z => some (Value.int z)) ?_, rfl⟩
    rw [ec]
  · have hk : kA tx ln a = 2 := (nI_eq (by omega) (by omega)).mp h19
    have hal : a < ln := by
      rcases Nat.lt_or_ge a ln with q | q
      · exact q
      · exact absurd (if_neg (by omega)) (show ¬ kA tx ln a = 3 by omega)
    refine Ew.iload_n hx dX9_number_22 rfl ?_
    refine Ew.iconst hx dX9_number_23 k_iconst_4 ?_
    refine Ew.icmp_gt hx (tgt := 46) dX9_number_24 rfl (fun h24 => ?_) (fun h24 => ?_)
    · have ec : numI tx ln a b = -1 := if_neg (fun q => by rw [il, tn (by omega), tl_4] at h24; omega)
      refine Ew.iconst hx dX9_number_46 k_iconst_m1 ?_
      refine Ew.iret hx hq dX9_number_47 rfl ?_
      refine ⟨congrArg (fun z => some (Value.int z)) ?_, rfl⟩
      rw [ec]
    · rw [il, tn (by omega), tl_4] at h24
      refine Ew.iload_n hx dX9_number_27 rfl ?_
      refine Ew.iconst hx dX9_number_28 k_iconst_1 ?_
      refine Ew.icmp_le hx (tgt := 48) dX9_number_29 rfl (fun h29 => ?_) (fun h29 => ?_)
      · have ec : numI tx ln a b = nvF tx (b - a) a 0 := if_pos ⟨hk, by omega, fun q => by rw [ie, tn (by omega), tl_1] at h29; omega⟩
        refine Ew.iconst hx dX9_number_48 k_iconst_0 ?_
        refine Ew.istore_n hx dX9_number_49 (by decide) rfl ?_
        refine Ew.aload_n hx dX9_number_50 rfl ?_
        refine Ew.getI hx dX9_number_51 fg_RX9_26 rfl ?_
        rw [e2]
        refine Ew.istore_n hx dX9_number_54 (by decide) rfl ?_
        exact lp_X9_num hT (a := a) hb e3 hx (by rw [ec] at hq; exact hq) (b - a) a (by omega) _ rfl
      · rw [ie, tn (by omega), tl_1] at h29
        refine Ew.aload_n hx dX9_number_32 rfl ?_
        refine Ew.getR (530) hx dX9_number_33 fg_RX9_9 rfl rfl ?_
        refine Ew.aload_n hx dX9_number_36 rfl ?_
        refine Ew.getI hx dX9_number_37 fg_RX9_26 rfl ?_
        refine Ew.cald (i := a) hx dX9_number_40 ag_17 rfl (e2) (by omega) ?_
        refine Ew.bipush hx dX9_number_41 k_bipush_48 ?_
        rw [hT.2.2 a hal]
        refine Ew.icmp_ne hx (tgt := 48) dX9_number_43 rfl (fun h43 => ?_) (fun h43 => ?_)
        · have ec : numI tx ln a b = nvF tx (b - a) a 0 := if_pos ⟨hk, by omega, fun q => h43 q.2⟩
          refine Ew.iconst hx dX9_number_48 k_iconst_0 ?_
          refine Ew.istore_n hx dX9_number_49 (by decide) rfl ?_
          refine Ew.aload_n hx dX9_number_50 rfl ?_
          refine Ew.getI hx dX9_number_51 fg_RX9_26 rfl ?_
          rw [e2]
          refine Ew.istore_n hx dX9_number_54 (by decide) rfl ?_
          exact lp_X9_num hT (a := a) hb e3 hx (by rw [ec] at hq; exact hq) (b - a) a (by omega) _ rfl
        · have ec : numI tx ln a b = -1 := if_neg (fun q => q.2.2 ⟨by omega, h43⟩)
          refine Ew.iconst hx dX9_number_46 k_iconst_m1 ?_
          refine Ew.iret hx hq dX9_number_47 rfl ?_
          refine ⟨congrArg (fun z => some (Value.int z)) ?_, rfl⟩
          rw [ec]
set_option maxHeartbeats 4000000 in
set_option maxRecDepth 100000 in
theorem ct_X5_fail (G : GT) (V : Mm) (k p c n : Int32) : Ct G mX5_fail 0 [adr G 528, .int k, .int p, .int c, .int n] (V) (Ri (-1000 - p) (mup (mup (mup (mup V 528 2 k) 528 3 p) 528 4 c) 528 5 n)) := by
  refine Ct.of cf_X5_fail (List.forall_mem_cons.mpr ⟨rfl, List.forall_mem_cons.mpr ⟨rfl, List.forall_mem_cons.mpr ⟨rfl, List.forall_mem_cons.mpr ⟨rfl, List.forall_mem_cons.mpr ⟨rfl, fun _ h => absurd h List.not_mem_nil⟩⟩⟩⟩⟩) (Nat.le_of_ble_eq_true rfl) (l0 := [some (adr G 528), some (.int k), some (.int p), some (.int c), some (.int n)]) rfl (fun C hx hq => ?_)
  refine Ew.aload_n hx dX5_fail_0 rfl ?_
  refine Ew.iload_n hx dX5_fail_1 rfl ?_
  refine Ew.putI hx dX5_fail_2 pg_RX5_22 rfl ?_
  refine Ew.aload_n hx dX5_fail_5 rfl ?_
  refine Ew.iload_n hx dX5_fail_6 rfl ?_
  refine Ew.putI hx dX5_fail_7 pg_RX5_54 rfl ?_
  refine Ew.aload_n hx dX5_fail_10 rfl ?_
  refine Ew.iload_n hx dX5_fail_11 rfl ?_
  refine Ew.putI hx dX5_fail_12 pg_RX5_57 rfl ?_
  refine Ew.aload_n hx dX5_fail_15 rfl ?_
  refine Ew.iload hx dX5_fail_16 rfl ?_
  refine Ew.putI hx dX5_fail_18 pg_RX5_60 rfl ?_
  refine Ew.sipush hx dX5_fail_21 k_sipush_m1000 ?_
  refine Ew.iload_n hx dX5_fail_24 rfl ?_
  refine Ew.isub hx dX5_fail_25 ?_
  refine Ew.iret hx hq dX5_fail_26 rfl ?_
  exact ⟨rfl, rfl⟩
theorem sp4 (w : Int32) : w = 0 ∨ w = 1 ∨ w = 2 ∨ w = 3 ∨ (w.toInt < 0 ∨ 3 < w.toInt) := by
  simp only [iq, tl_0, tl_1, tl_2, tl_3]
  omega
noncomputable def anPart (k p c n w : Int32) : Int32 := cif (k = 0) (-100009) (cif (w = 0) k (cif (w = 1) p (cif (w = 2) (cif (k = 1) 1 2) (cif (w = 3) c n))))
noncomputable def anFailure (k p c n w : Int32) : Int32 := cif (0 ≤ w ∧ w ≤ 4) (anPart k p c n w) (-100001)
set_option maxHeartbeats 4000000 in
set_option maxRecDepth 100000 in
theorem ct_X5_failurePart (G : GT) (V : Mm) (w : Int32) : Ct G mX5_failurePart 0 [adr G 528, .int w] (V) (Ri (anPart (V 528 2) (V 528 3) (V 528 4) (V 528 5) w) V) := by
  refine Ct.of cf_X5_failurePart (List.forall_mem_cons.mpr ⟨rfl, List.forall_mem_cons.mpr ⟨rfl, fun _ h => absurd h List.not_mem_nil⟩⟩) (Nat.le_of_ble_eq_true rfl) (l0 := [some (adr G 528), some (.int w)]) rfl (fun C hx hq => ?_)
  refine Ew.aload_n hx dX5_failurePart_0 rfl ?_
  refine Ew.getI hx dX5_failurePart_1 fg_RX5_22 rfl ?_
  refine Ew.if_ne hx (tgt := 10) dX5_failurePart_4 rfl (fun h4 => ?_) (fun h4 => ?_)
  · refine Ew.iload_n hx dX5_failurePart_10 rfl ?_
    rcases sp4 w with hw | hw | hw | hw | hw
    · refine Ew.tswIn hx dX5_failurePart_11 (by rw [hw]; decide) (i := 0) (tgt := 40) rfl rfl ?_
      refine Ew.aload_n hx dX5_failurePart_40 rfl ?_
      refine Ew.getI hx dX5_failurePart_41 fg_RX5_22 rfl ?_
      refine Ew.iret hx hq dX5_failurePart_44 rfl ?_
      refine ⟨congrArg (fun z => some (Value.int z)) ?_, rfl⟩
      unfold anPart
      rw [cif_f h4]
      rw [cif_t hw]
    · refine Ew.tswIn hx dX5_failurePart_11 (by rw [hw]; decide) (i := 1) (tgt := 45) rfl rfl ?_
      refine Ew.aload_n hx dX5_failurePart_45 rfl ?_
      refine Ew.getI hx dX5_failurePart_46 fg_RX5_54 rfl ?_
      refine Ew.iret hx hq dX5_failurePart_49 rfl ?_
      refine ⟨congrArg (fun z => some (Value.int z)) ?_, rfl⟩
      unfold anPart
      rw [cif_f h4]
      rw [cif_f (by rw [hw]; decide), cif_t hw]
    · refine Ew.tswIn hx dX5_failurePart_11 (by rw [hw]; decide) (i := 2) (tgt := 50) rfl rfl ?_
      refine Ew.aload_n hx dX5_failurePart_50 rfl ?_
      refine Ew.getI hx dX5_failurePart_51 fg_RX5_22 rfl ?_
      refine Ew.iconst hx dX5_failurePart_54 k_iconst_1 ?_
      refine Ew.icmp_ne hx (tgt := 62) dX5_failurePart_55 rfl (fun h55 => ?_) (fun h55 => ?_)
      · refine Ew.iconst hx dX5_failurePart_62 k_iconst_2 ?_
        refine Ew.iret hx hq dX5_failurePart_63 rfl ?_
        refine ⟨congrArg (fun z => some (Value.int z)) ?_, rfl⟩
        unfold anPart
        rw [cif_f h4, cif_f (by rw [hw]; decide), cif_f (by rw [hw]; decide), cif_t hw]
        first | exact (cif_t h55).symm | exact (cif_f h55).symm
      · refine Ew.iconst hx dX5_failurePart_58 k_iconst_1 ?_
        refine Ew.goto hx (tgt := 63) dX5_failurePart_59 rfl ?_
        refine Ew.iret hx hq dX5_failurePart_63 rfl ?_
        refine ⟨congrArg (fun z => some (Value.int z)) ?_, rfl⟩
        unfold anPart
        rw [cif_f h4, cif_f (by rw [hw]; decide), cif_f (by rw [hw]; decide), cif_t hw]
        first | exact (cif_t h55).symm | exact (cif_f h55).symm
    · refine Ew.tswIn hx dX5_failurePart_11 (by rw [hw]; decide) (i := 3) (tgt := 64) rfl rfl ?_
      refine Ew.aload_n hx dX5_failurePart_64 rfl ?_
      refine Ew.getI hx dX5_failurePart_65 fg_RX5_57 rfl ?_
      refine Ew.iret hx hq dX5_failurePart_68 rfl ?_
      refine ⟨congrArg (fun z => some (Value.int z)) ?_, rfl⟩
      unfold anPart
      rw [cif_f h4]
      rw [cif_f (by rw [hw]; decide), cif_f (by rw [hw]; decide), cif_f (by rw [hw]; decide), cif_t hw]
    · refine Ew.tswOut hx dX5_failurePart_11 (hw) (tgt := 69) rfl ?_
      refine Ew.aload_n hx dX5_failurePart_69 rfl ?_
      refine Ew.getI hx dX5_failurePart_70 fg_RX5_60 rfl ?_
      refine Ew.iret hx hq dX5_failurePart_73 rfl ?_
      refine ⟨congrArg (fun z => some (Value.int z)) ?_, rfl⟩
      unfold anPart
      rw [cif_f h4]
      rw [cif_f (by rw [iq, tl_0]; omega), cif_f (by rw [iq, tl_1]; omega), cif_f (by rw [iq, tl_2]; omega), cif_f (by rw [iq, tl_3]; omega)]
  · have ec : anPart (V 528 2) (V 528 3) (V 528 4) (V 528 5) w = -100009 := cif_t h4
    refine Ew.ldc hx dX5_failurePart_7 kn_RX5_40 ?_
    refine Ew.iret hx hq dX5_failurePart_9 rfl ?_
    refine ⟨congrArg (fun z => some (Value.int z)) ?_, rfl⟩
    exact (cif_t h4).symm
set_option maxHeartbeats 4000000 in
set_option maxRecDepth 100000 in
theorem ct_X11_append (G : GT) (V : Mm) {tx : Tx} {ln : Nat} (hT : TX V tx ln) (c : Int32) : Ct G mX11_append 1 [adr G 0, .int c] (V) (fun v V9 => ((1 ≤ c ∧ c ≤ 255) ∧ v = some (.int (anAdd ln)) ∧ Fr 529 531 V V9 ∧ TX V9 (txA tx ln c) (lnA ln) ∧ ∀ i, i ≠ 1 → V9 529 i = V 529 i) ∨ (¬ (1 ≤ c ∧ c ≤ 255) ∧ v = some (.int (-100001)) ∧ V9 = V)) := by
  refine Ct.of cf_X11_append (List.forall_mem_cons.mpr ⟨rfl, List.forall_mem_cons.mpr ⟨rfl, fun _ h => absurd h List.not_mem_nil⟩⟩) (Nat.le_of_ble_eq_true rfl) (l0 := [some (adr G 0), some (.int c)]) rfl (fun C hx hq => ?_)
  refine Ew.iload_n hx dX11_append_0 rfl ?_
  refine Ew.iconst hx dX11_append_1 k_iconst_1 ?_
  refine Ew.sipush hx dX11_append_2 k_sipush_255 ?_
  refine Ew.callS (y' := mX11_isWithin) hx dX11_append_5 ml_RX11_107 cf_X11_isWithin cs_X11_isWithin (ct_X11_isWithin G V _ _ _) rfl (by decide) (by decide) rfl (Nat.le_of_ble_eq_true rfl) ?_
  rintro _ V9 ⟨rfl, h9⟩; subst V9
  refine Ew.ifne_b hx (tgt := 14) dX11_append_8 rfl (fun h8 => ?_) (fun h8 => ?_)
  · refine Ew.aload_n hx dX11_append_14 rfl ?_
    refine Ew.getR (528) hx dX11_append_15 fg_RX11_26 rfl rfl ?_
    refine Ew.getR (529) hx dX11_append_18 fg_RX11_112 rfl rfl ?_
    refine Ew.iload_n hx dX11_append_21 rfl ?_
    refine Ew.i2c hx dX11_append_22 ((ch_ok h8).1) ?_
    refine Ew.callV2 (y' := mX9_add) hx dX11_append_23 ml_RX11_116 cf_X9_add cv_X9_add (ct_X9_add G V hT (ch_ok h8).2) rfl oc_16 rfl (by decide) (by decide) rfl (Nat.le_of_ble_eq_true rfl) ?_
    rintro _ V9 ⟨rfl, h9⟩
    refine Ew.iret hx hq dX11_append_26 rfl ?_
    exact Or.inl ⟨h8, rfl, h9⟩
  · refine Ew.ldc hx dX11_append_11 kn_RX11_111 ?_
    refine Ew.iret hx hq dX11_append_13 rfl ?_
    exact Or.inr ⟨h8, rfl, rfl⟩
set_option maxHeartbeats 4000000 in
set_option maxRecDepth 100000 in
theorem ct_X11_clearText (G : GT) (V : Mm)  : Ct G mX11_clearText 1 [adr G 0] (V) (fun v V9 => v = some (.int (V 529 1)) ∧ V9 = mup V 529 1 0) := by
  refine Ct.of cf_X11_clearText (List.forall_mem_cons.mpr ⟨rfl, fun _ h => absurd h List.not_mem_nil⟩) (Nat.le_of_ble_eq_true rfl) (l0 := [some (adr G 0)]) rfl (fun C hx hq => ?_)
  refine Ew.aload_n hx dX11_clearText_0 rfl ?_
  refine Ew.getR (528) hx dX11_clearText_1 fg_RX11_26 rfl rfl ?_
  refine Ew.getR (529) hx dX11_clearText_4 fg_RX11_112 rfl rfl ?_
  refine Ew.callV2 (y' := mX9_empty) hx dX11_clearText_7 ml_RX11_122 cf_X9_empty cv_X9_empty (ct_X9_empty G V) rfl oc_16 rfl (by decide) (by decide) rfl (Nat.le_of_ble_eq_true rfl) ?_
  rintro _ V9 ⟨rfl, h9⟩; subst V9
  refine Ew.iret hx hq dX11_clearText_10 rfl ?_
  exact ⟨rfl, rfl⟩
set_option maxHeartbeats 4000000 in
set_option maxRecDepth 100000 in
theorem ct_X11_failure (G : GT) (V : Mm) (w : Int32) : Ct G mX11_failure 1 [adr G 0, .int w] (V) (Ri (anFailure (V 528 2) (V 528 3) (V 528 4) (V 528 5) w) V) := by
  refine Ct.of cf_X11_failure (List.forall_mem_cons.mpr ⟨rfl, List.forall_mem_cons.mpr ⟨rfl, fun _ h => absurd h List.not_mem_nil⟩⟩) (Nat.le_of_ble_eq_true rfl) (l0 := [some (adr G 0), some (.int w)]) rfl (fun C hx hq => ?_)
  refine Ew.iload_n hx dX11_failure_0 rfl ?_
  refine Ew.iconst hx dX11_failure_1 k_iconst_0 ?_
  refine Ew.iconst hx dX11_failure_2 k_iconst_4 ?_
  refine Ew.callS (y' := mX11_isWithin) hx dX11_failure_3 ml_RX11_107 cf_X11_isWithin cs_X11_isWithin (ct_X11_isWithin G V _ _ _) rfl (by decide) (by decide) rfl (Nat.le_of_ble_eq_true rfl) ?_
  rintro _ V9 ⟨rfl, h9⟩; subst V9
  refine Ew.ifne_b hx (tgt := 12) dX11_failure_6 rfl (fun h6 => ?_) (fun h6 => ?_)
  · refine Ew.aload_n hx dX11_failure_12 rfl ?_
    refine Ew.getR (528) hx dX11_failure_13 fg_RX11_26 rfl rfl ?_
    refine Ew.iload_n hx dX11_failure_16 rfl ?_
    refine Ew.callV2 (y' := mX5_failurePart) hx dX11_failure_17 ml_RX11_133 cf_X5_failurePart cv_X5_failurePart (ct_X5_failurePart G V w) rfl oc_15 rfl (by decide) (by decide) rfl (Nat.le_of_ble_eq_true rfl) ?_
    rintro _ V9 ⟨rfl, h9⟩; subst V9
    refine Ew.iret hx hq dX11_failure_20 rfl ?_
    refine ⟨congrArg (fun z => some (Value.int z)) ?_, rfl⟩
    exact (cif_t h6).symm
  · refine Ew.ldc hx dX11_failure_9 kn_RX11_111 ?_
    refine Ew.iret hx hq dX11_failure_11 rfl ?_
    refine ⟨congrArg (fun z => some (Value.int z)) ?_, rfl⟩
    exact (cif_f h6).symm
