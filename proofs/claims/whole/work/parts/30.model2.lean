def MS (V : Mm) (z : Nat) (h : Nat → Sv) : Prop := V 532 4 = nI z ∧ z ≤ 5 ∧ ∀ k, k < z → ∀ m, m < 581 → V 535 (581 * k + m) = h (z - 1 - k) m
def sh1 (V : Mm) (i : Nat) : Mm := rs V 535 (fun j => if j < i then V 535 (j + 581) else V 535 j)
theorem sh1_0 (V : Mm) : sh1 V 0 = V := by
  unfold sh1
  rw [show (fun j => if j < 0 then V 535 (j + 581) else V 535 j) = V 535 from funext (fun j => if_neg (Nat.not_lt_zero j))]
  exact rs_self V 535
theorem sh1_at (V : Mm) (i : Nat) : sh1 V i 535 (i + 581) = V 535 (i + 581) := by
  unfold sh1
  rw [rs_same]
  exact if_neg (by omega)
theorem sh1_o (V : Mm) (i : Nat) {k : Nat} (h : k ≠ 535) : sh1 V i k = V k := rs_ne _ _ h
theorem sh1_s (V : Mm) (i : Nat) : mup (sh1 V i) 535 i (V 535 (i + 581)) = sh1 V (i + 1) := by
  unfold sh1
  rw [mup_rs, rs_rs, rs_same]
  congr 1
  funext j
  by_cases h : j = i
  · subst h
    rw [upd_s, if_pos (by omega)]
  · rw [upd_n _ _ h]
    by_cases h2 : j < i
    · rw [if_pos h2, if_pos (by omega)]
    · rw [if_neg h2, if_neg (by omega)]
def cp2 (V : Mm) (q i : Nat) : Mm := rs V 535 (fun j => if 581 * q ≤ j ∧ j < 581 * q + i then V 533 (j - 581 * q) else V 535 j)
theorem cp2_0 (V : Mm) (q : Nat) : cp2 V q 0 = V := by
  unfold cp2
  rw [show (fun j => if 581 * q ≤ j ∧ j < 581 * q + 0 then V 533 (j - 581 * q) else V 535 j) = V 535 from funext (fun j => if_neg (by omega))]
  exact rs_self V 535
theorem cp2_o (V : Mm) (q i : Nat) {k : Nat} (h : k ≠ 535) : cp2 V q i k = V k := rs_ne _ _ h
theorem cp2_s (V : Mm) (q i : Nat) : mup (cp2 V q i) 535 (581 * q + i) (V 533 i) = cp2 V q (i + 1) := by
  unfold cp2
  rw [mup_rs, rs_rs, rs_same]
  congr 1
  funext j
  by_cases h : j = 581 * q + i
  · subst h
    rw [upd_s, if_pos (by omega), Nat.add_sub_cancel_left]
  · rw [upd_n _ _ h]
    by_cases h2 : 581 * q ≤ j ∧ j < 581 * q + i
    · rw [if_pos h2, if_pos (by omega)]
    · rw [if_neg h2, if_neg (by omega)]
theorem ix_q {q i : Nat} (hq : q < 6) : 581 * nI q + nI i = nI (581 * q + i) := by
  rw [(show ∀ q, q < 6 → 581 * nI q = nI (581 * q) by decide +kernel) q hq, nI_add]
theorem nI_pd {q : Nat} (h : 0 < q) : nI q - 1 = nI (q - 1) := by
  rw [show q = (q - 1) + 1 by omega]
  exact nI_pred _
def ActM (V : Mm) (s : Sv) (z : Nat) (h : Nat → Sv) : PT := fun v V9 => v = none ∧ (∀ k, k ≠ 532 → k ≠ 535 → V9 k = V k) ∧ (∀ i, i ≠ 4 → V9 532 i = V 532 i) ∧ MS V9 (szH z) (psh s h)
set_option maxHeartbeats 4000000 in
set_option maxRecDepth 100000 in
theorem lp_X12_act2 {G : GT} {C : CT} {V : Mm} {s : Sv} {z q : Nat} {h : Nat → Sv} {W : Mm} (hM : MR V s) (e4 : W 532 4 = nI q) (hz : q < 5) (ez : nI q + 1 = nI (szH z)) (ez2 : szH z = q + 1) (hF : ∀ k, k ≠ 532 → k ≠ 535 → W k = V k) (hG : ∀ i, i ≠ 4 → W 532 i = V 532 i) (hK : ∀ k, k < q → ∀ m, m < 581 → W 535 (581 * k + m) = h (q - 1 - k) m) (hx : Cx G mX12_act 0 C) (hq : Cq G (ActM V s z h) C) : ∀ (n i : Nat), i + n = 581 → Ew G C (cp2 W q i) 51 [some (adr G 532), some (.int (nI i))] [] := by
  intro n
  induction n with
  | zero =>
    intro i hi
    refine Ew.iload_n hx dX12_act_51 rfl ?_
    refine Ew.sipush hx dX12_act_52 k_sipush_581 ?_
    refine Ew.icmp_ge_t hx (tgt := 85) dX12_act_55 rfl (nI_le (a := 581) (b := i) (by omega) (by omega)) ?_
    refine Ew.aload_n hx dX12_act_85 rfl ?_
    refine Ew.dup hx dX12_act_86 rfl ?_
    refine Ew.getI hx dX12_act_87 fg_RX12_35 rfl ?_
    rw [cp2_o _ _ _ (by decide), e4]
    refine Ew.iconst hx dX12_act_90 k_iconst_1 ?_
    refine Ew.iadd hx dX12_act_91 ?_
    refine Ew.putI hx dX12_act_92 pg_RX12_35 rfl ?_
    refine Ew.vret hx hq dX12_act_95 rfl ?_
    have e581 : i = 581 := by omega
    refine ⟨rfl, fun k h1 h2 => by rw [mup_ne _ _ _ h1, cp2_o _ _ _ h2]; exact hF k h1 h2, fun i hi2 => by rw [mup_oth _ _ _ _ (Or.inr hi2), cp2_o _ _ _ (by decide)]; exact hG i hi2, by rw [mup_self, ez], by unfold szH; split <;> omega, fun k hk m hm => ?_⟩
    rw [mup_ne _ _ _ (by decide)]
    unfold cp2
    rw [rs_same, e581]
    by_cases hk2 : k = q
    · subst hk2
      rw [if_pos (by omega), Nat.add_sub_cancel_left, show szH z - 1 - k = 0 by omega, hF 533 (by decide) (by decide)]
      exact hM m hm
    · rw [if_neg (by omega), hK k (by omega) m hm]
      rw [show szH z - 1 - k = (q - 1 - k) + 1 by omega]
      rfl
  | succ n ih =>
    intro i hi
    refine Ew.iload_n hx dX12_act_51 rfl ?_
    refine Ew.sipush hx dX12_act_52 k_sipush_581 ?_
    refine Ew.icmp_ge_f hx (tgt := 85) dX12_act_55 rfl (nI_ge (a := i) (b := 581) (by omega) (by omega)) ?_
    refine Ew.aload_n hx dX12_act_58 rfl ?_
    refine Ew.getR (535) hx dX12_act_59 fg_RX12_16 rfl rfl ?_
    refine Ew.sipush hx dX12_act_62 k_sipush_581 ?_
    refine Ew.aload_n hx dX12_act_65 rfl ?_
    refine Ew.getI hx dX12_act_66 fg_RX12_35 rfl ?_
    rw [cp2_o _ _ _ (by decide), e4]
    refine Ew.imul hx dX12_act_69 ?_
    refine Ew.iload_n hx dX12_act_70 rfl ?_
    refine Ew.iadd hx dX12_act_71 ?_
    refine Ew.aload_n hx dX12_act_72 rfl ?_
    refine Ew.getR (533) hx dX12_act_73 fg_RX12_7 rfl rfl ?_
    refine Ew.iload_n hx dX12_act_76 rfl ?_
    refine Ew.iald (i := i) hx dX12_act_77 ag_20 rfl (rfl) (by omega) ?_
    rw [cp2_o _ _ _ (by decide)]
    refine Ew.iast (i := 581 * q + i) hx dX12_act_78 ag_21 rfl (ix_q (by omega)) (by omega) ?_
    refine Ew.iinc hx dX12_act_79 rfl (k_iinc_1 _) (by decide) rfl ?_
    refine Ew.goto hx (tgt := 51) dX12_act_82 rfl ?_
    rw [cp2_s, nI_1]
    exact ih (i + 1) (by omega)
set_option maxHeartbeats 4000000 in
set_option maxRecDepth 100000 in
theorem lp_X12_act1 {G : GT} {C : CT} {V : Mm} {s : Sv} {z : Nat} {h : Nat → Sv} (hM : MR V s) (hS : MS V z h) (z5 : z = 5) (hx : Cx G mX12_act 0 C) (hq : Cq G (ActM V s z h) C) : ∀ (n i : Nat), i + n = 2324 → Ew G C (sh1 V i) 10 [some (adr G 532), some (.int (nI i))] [] := by
  intro n
  induction n with
  | zero =>
    intro i hi
    refine Ew.iload_n hx dX12_act_10 rfl ?_
    refine Ew.sipush hx dX12_act_11 k_sipush_2324 ?_
    refine Ew.icmp_ge_t hx (tgt := 39) dX12_act_14 rfl (nI_le (a := 2324) (b := i) (by omega) (by omega)) ?_
    refine Ew.aload_n hx dX12_act_39 rfl ?_
    refine Ew.dup hx dX12_act_40 rfl ?_
    refine Ew.getI hx dX12_act_41 fg_RX12_35 rfl ?_
    rw [sh1_o _ _ (by decide), hS.1]
    refine Ew.iconst hx dX12_act_44 k_iconst_1 ?_
    refine Ew.isub hx dX12_act_45 ?_
    rw [nI_pd (by omega)]
    refine Ew.putI hx dX12_act_46 pg_RX12_35 rfl ?_
    refine Ew.iconst hx dX12_act_49 k_iconst_0 ?_
    refine Ew.istore_n hx dX12_act_50 (by decide) rfl ?_
    have e : i = 2324 := by omega
    subst e
    have es : szH z = 5 := by unfold szH; rw [if_neg (by omega)]
    have q := lp_X12_act2 (V := V) (z := z) (h := h) (W := mup (sh1 V 2324) 532 4 (nI (z - 1))) (q := z - 1) hM (mup_self _ _ _ _) (by omega) (by rw [es, z5]; rfl) (by omega) (fun k h1 h2 => by rw [mup_ne _ _ _ h1, sh1_o _ _ h2]) (fun i hi2 => by rw [mup_oth _ _ _ _ (Or.inr hi2), sh1_o _ _ (by decide)]) (fun k hk m hm => by
      rw [mup_ne _ _ _ (by decide)]
      unfold sh1
      rw [rs_same, if_pos (by omega), show 581 * k + m + 581 = 581 * (k + 1) + m by omega, hS.2.2 (k + 1) (by omega) m hm, show z - 1 - (k + 1) = z - 1 - 1 - k by omega]) hx hq 581 0 rfl
    rw [cp2_0] at q
    exact q
  | succ n ih =>
    intro i hi
    refine Ew.iload_n hx dX12_act_10 rfl ?_
    refine Ew.sipush hx dX12_act_11 k_sipush_2324 ?_
    refine Ew.icmp_ge_f hx (tgt := 39) dX12_act_14 rfl (nI_ge (a := i) (b := 2324) (by omega) (by omega)) ?_
    refine Ew.aload_n hx dX12_act_17 rfl ?_
    refine Ew.getR (535) hx dX12_act_18 fg_RX12_16 rfl rfl ?_
    refine Ew.iload_n hx dX12_act_21 rfl ?_
    refine Ew.aload_n hx dX12_act_22 rfl ?_
    refine Ew.getR (535) hx dX12_act_23 fg_RX12_16 rfl rfl ?_
    refine Ew.iload_n hx dX12_act_26 rfl ?_
    refine Ew.sipush hx dX12_act_27 k_sipush_581 ?_
    refine Ew.iadd hx dX12_act_30 ?_
    rw [show nI i + 581 = nI (i + 581) from nI_add i 581]
    refine Ew.iald (i := i + 581) hx dX12_act_31 ag_21 rfl (rfl) (by omega) ?_
    rw [sh1_at]
    refine Ew.iast (i := i) hx dX12_act_32 ag_21 rfl (rfl) (by omega) ?_
    refine Ew.iinc hx dX12_act_33 rfl (k_iinc_1 _) (by decide) rfl ?_
    refine Ew.goto hx (tgt := 10) dX12_act_36 rfl ?_
    rw [sh1_s, nI_1]
    exact ih (i + 1) (by omega)
set_option maxHeartbeats 4000000 in
set_option maxRecDepth 100000 in
theorem ct_X12_act (G : GT) (V : Mm) {s : Sv} {z : Nat} {h : Nat → Sv} (hM : MR V s) (hS : MS V z h) : Ct G mX12_act 0 [adr G 532] (V) (ActM V s z h) := by
  refine Ct.of cf_X12_act (List.forall_mem_cons.mpr ⟨rfl, fun _ h => absurd h List.not_mem_nil⟩) (Nat.le_of_ble_eq_true rfl) (l0 := [some (adr G 532), none]) rfl (fun C hx hq => ?_)
  refine Ew.aload_n hx dX12_act_0 rfl ?_
  refine Ew.getI hx dX12_act_1 fg_RX12_35 rfl ?_
  refine Ew.iconst hx dX12_act_4 k_iconst_5 ?_
  have hz := hS.2.1
  rw [hS.1]
  refine Ew.icmp_ne hx (tgt := 49) dX12_act_5 rfl (fun h5 => ?_) (fun h5 => ?_)
  · have z5 : z ≠ 5 := fun e => h5 (by rw [e]; rfl)
    refine Ew.iconst hx dX12_act_49 k_iconst_0 ?_
    refine Ew.istore_n hx dX12_act_50 (by decide) rfl ?_
    have es : szH z = z + 1 := by unfold szH; rw [if_pos (by omega)]
    have q := lp_X12_act2 (V := V) (z := z) (h := h) (W := V) (q := z) hM hS.1 (by omega) (by rw [es, nI_1]) es (fun _ _ _ => rfl) (fun _ _ => rfl) hS.2.2 hx hq 581 0 rfl
    rw [cp2_0] at q
    exact q
  · have z5 : z = 5 := (nI_eq (a := z) (b := 5) (by omega) (by omega)).mp h5
    refine Ew.iconst hx dX12_act_8 k_iconst_0 ?_
    refine Ew.istore_n hx dX12_act_9 (by decide) rfl ?_
    have q := lp_X12_act1 (V := V) hM hS z5 hx hq 2324 0 rfl
    rw [sh1_0] at q
    exact q
