theorem cnt_b {P : Nat → Prop} {n : Nat} (x : Prop) (h : P n ↔ x) : nI (cntN P n) + b2i x = nI (cntN P (n + 1)) := by
  by_cases q : x
  · rw [b2i_t q, cntN_t (h.mpr q), nI_succ]
  · rw [b2i_f q, cntN_f (fun z => q (h.mp z))]
    exact Int32.add_zero _
theorem dtc_cn2 {s : Sv} {B : Int} (hW : WF s B) {p a b : Nat} (hp : p < npN s) (ea : pf s p 1 = nI a) (eb : pf s p 2 = nI b) (hab : a ≤ b) (hb : b ≤ 181) : nI (cntN (fun k => cms s p (a + k)) (b + 1 - a)) = dtc s p := by
  have ht := hW.t
  have key : ∀ n, n ≤ b + 1 - a → cntN (fun k => cms s p (a + k)) n = if pf s p 11 = 0 then a + n - (if a < tN s then tN s else a) else 0 := by
    intro n
    induction n with
    | zero =>
      intro _
      show 0 = _
      split
      · split <;> omega
      · rfl
    | succ n ih =>
      intro hn
      have ih2 := ih (by omega)
      have hc : cms s p (a + n) ↔ (pf s p 11 = 0 ∧ tN s ≤ a + n) := by
        unfold cms cmsP
        rw [ea, eb, ht.1, nI_leI (by omega) (by omega), nI_leI (by omega) (by omega), nI_leI (by omega) (by omega)]
        exact ⟨fun q => ⟨q.1, q.2.1⟩, fun q => ⟨q.1, q.2, by omega, by omega⟩⟩
      by_cases q : pf s p 11 = 0
      · rw [if_pos q] at ih2 ⊢
        by_cases q2 : tN s ≤ a + n
        · rw [cntN_t (P := fun k => cms s p (a + k)) (hc.mpr ⟨q, q2⟩), ih2]
          split <;> omega
        · rw [cntN_f (P := fun k => cms s p (a + k)) (fun z => q2 (hc.mp z).2), ih2]
          split <;> omega
      · rw [if_neg q] at ih2 ⊢
        rw [cntN_f (P := fun k => cms s p (a + k)) (fun z => q (hc.mp z).1), ih2]
  rw [key _ (Nat.le_refl _)]
  unfold dtc dtcI
  rw [ea, eb, ht.1]
  by_cases q : pf s p 11 = 0
  · rw [if_pos q, if_neg (show ¬ (pf s p 11 ≠ 0) from fun z => z q)]
    have e : (if nI (tN s) < nI a then nI a else nI (tN s)) = nI (if a < tN s then tN s else a) := by
      by_cases q3 : tN s < a
      · rw [if_pos (nI_lt q3 (by omega)), if_neg (by omega)]
      · rw [if_neg (nI_nlt (by omega) (by omega))]
        by_cases q4 : a < tN s
        · rw [if_pos q4]
        · rw [if_neg q4, show tN s = a by omega]
    rw [e]
    generalize hm : (if a < tN s then tN s else a) = m
    have hm2 : m ≤ 181 := by rw [← hm]; split <;> omega
    by_cases q5 : b < m
    · rw [if_pos (nI_lt q5 (by omega)), show a + (b + 1 - a) - m = 0 by omega]
      rfl
    · rw [if_neg (nI_nlt (by omega) (by omega)), nI_sb (by omega), nI_1]
      congr 1
      omega
  · rw [if_neg q, if_pos (show pf s p 11 ≠ 0 from q)]
    rfl
set_option maxHeartbeats 4000000 in
set_option maxRecDepth 100000 in
theorem lp_X12_dtc {G : GT} {C : CT} {V : Mm} {s : Sv} {B : Int} (hM : MR V s) (hW : WF s B) {p a b : Nat} (hp : p < npN s) (hp12 : p < 12) (ea : pf s p 1 = nI a) (eb : pf s p 2 = nI b) (hab : a ≤ b) (hb : b ≤ 181) (hx : Cx G mX12_daysToCome 2 C) (hq : Cq G (Ri (dtc s p) V) C) : ∀ (n i : Nat), i + n = b + 1 - a → Ew G C (V) 9 [some (adr G 532), some (.int (nI p)), some (.int (nI (cntN (fun k => cms s p (a + k)) i))), some (.int (nI (a + i)))] [] := by
  intro n
  induction n with
  | zero =>
    intro i hi
    refine Ew.iload_n hx dX12_daysToCome_9 rfl ?_
    refine Ew.aload_n hx dX12_daysToCome_10 rfl ?_
    refine Ew.iload_n hx dX12_daysToCome_11 rfl ?_
    refine Ew.iconst hx dX12_daysToCome_12 k_iconst_2 ?_
    refine Ew.callV2 (y' := mX12_of) hx dX12_daysToCome_13 ml_RX12_53 cf_X12_of cv_X12_of (ct_X12_of G V hp12 (j := 2) (by decide)) rfl oc_19 rfl (by decide) (by decide) rfl (Nat.le_of_ble_eq_true rfl) ?_
    rintro _ V9 ⟨rfl, h9⟩; subst V9
    rw [hM _ (by omega)]
    rw [show s (49 + 12 * p + 2) = nI b from eb]
    refine Ew.icmp_gt_t hx (tgt := 42) dX12_daysToCome_16 rfl (nI_lt (by omega) (by omega)) ?_
    refine Ew.iload_n hx dX12_daysToCome_42 rfl ?_
    refine Ew.iret hx hq dX12_daysToCome_43 rfl ?_
    refine ⟨congrArg (fun z => some (Value.int z)) ?_, rfl⟩
    rw [← dtc_cn2 hW hp ea eb hab hb, show i = b + 1 - a by omega]
  | succ n ih =>
    intro i hi
    refine Ew.iload_n hx dX12_daysToCome_9 rfl ?_
    refine Ew.aload_n hx dX12_daysToCome_10 rfl ?_
    refine Ew.iload_n hx dX12_daysToCome_11 rfl ?_
    refine Ew.iconst hx dX12_daysToCome_12 k_iconst_2 ?_
    refine Ew.callV2 (y' := mX12_of) hx dX12_daysToCome_13 ml_RX12_53 cf_X12_of cv_X12_of (ct_X12_of G V hp12 (j := 2) (by decide)) rfl oc_19 rfl (by decide) (by decide) rfl (Nat.le_of_ble_eq_true rfl) ?_
    rintro _ V9 ⟨rfl, h9⟩; subst V9
    rw [hM _ (by omega)]
    rw [show s (49 + 12 * p + 2) = nI b from eb]
    refine Ew.icmp_gt_f hx (tgt := 42) dX12_daysToCome_16 rfl (nI_nlt (by omega) (by omega)) ?_
    refine Ew.iload_n hx dX12_daysToCome_19 rfl ?_
    refine Ew.aload_n hx dX12_daysToCome_20 rfl ?_
    refine Ew.iload_n hx dX12_daysToCome_21 rfl ?_
    refine Ew.iload_n hx dX12_daysToCome_22 rfl ?_
    refine Ew.callV2 (y' := mX12_comes) hx dX12_daysToCome_23 ml_RX12_56 cf_X12_comes cv_X12_comes (ct_X12_comes G V hM hp12 (a + i)) rfl oc_19 rfl (by decide) (by decide) rfl (Nat.le_of_ble_eq_true rfl) ?_
    rintro _ V9 ⟨rfl, h9⟩; subst V9
    refine Ew.ifeq_b hx (tgt := 33) dX12_daysToCome_26 rfl (fun h26 => ?_) (fun h26 => ?_)
    · have hc : nI (cntN (fun k => cms s p (a + k)) i) + 0 = nI (cntN (fun k => cms s p (a + k)) (i + 1)) := by rw [cntN_f (P := fun k => cms s p (a + k)) h26]; exact Int32.add_zero _
      refine Ew.iconst hx dX12_daysToCome_33 k_iconst_0 ?_
      refine Ew.iadd hx dX12_daysToCome_34 ?_
      rw [hc]
      refine Ew.istore_n hx dX12_daysToCome_35 (by decide) rfl ?_
      refine Ew.iinc hx dX12_daysToCome_36 rfl (k_iinc_1 _) (by decide) rfl ?_
      refine Ew.goto hx (tgt := 9) dX12_daysToCome_39 rfl ?_
      rw [nI_1]
      exact ih (i + 1) (by omega)
    · have hc : nI (cntN (fun k => cms s p (a + k)) i) + 1 = nI (cntN (fun k => cms s p (a + k)) (i + 1)) := by rw [cntN_t (P := fun k => cms s p (a + k)) h26, nI_succ]
      refine Ew.iconst hx dX12_daysToCome_29 k_iconst_1 ?_
      refine Ew.goto hx (tgt := 34) dX12_daysToCome_30 rfl ?_
      refine Ew.iadd hx dX12_daysToCome_34 ?_
      rw [hc]
      refine Ew.istore_n hx dX12_daysToCome_35 (by decide) rfl ?_
      refine Ew.iinc hx dX12_daysToCome_36 rfl (k_iinc_1 _) (by decide) rfl ?_
      refine Ew.goto hx (tgt := 9) dX12_daysToCome_39 rfl ?_
      rw [nI_1]
      exact ih (i + 1) (by omega)
set_option maxHeartbeats 4000000 in
set_option maxRecDepth 100000 in
theorem ct_X12_daysToCome (G : GT) (V : Mm) {s : Sv} {B : Int} (hM : MR V s) (hW : WF s B) {p : Nat} (hp : p < npN s) : Ct G mX12_daysToCome 2 [adr G 532, .int (nI p)] (V) (Ri (dtc s p) V) := by
  refine Ct.of cf_X12_daysToCome (List.forall_mem_cons.mpr ⟨rfl, List.forall_mem_cons.mpr ⟨rfl, fun _ h => absurd h List.not_mem_nil⟩⟩) (Nat.le_of_ble_eq_true rfl) (l0 := [some (adr G 532), some (.int (nI p)), none, none]) rfl (fun C hx hq => ?_)
  have hp12 : p < 12 := by have := hW.np.2; omega
  obtain ⟨r, a, b, er, hr, ea, eb, hab, hb, -⟩ := hW.pn hp
  refine Ew.iconst hx dX12_daysToCome_0 k_iconst_0 ?_
  refine Ew.istore_n hx dX12_daysToCome_1 (by decide) rfl ?_
  refine Ew.aload_n hx dX12_daysToCome_2 rfl ?_
  refine Ew.iload_n hx dX12_daysToCome_3 rfl ?_
  refine Ew.iconst hx dX12_daysToCome_4 k_iconst_1 ?_
  refine Ew.callV2 (y' := mX12_of) hx dX12_daysToCome_5 ml_RX12_53 cf_X12_of cv_X12_of (ct_X12_of G V hp12 (j := 1) (by decide)) rfl oc_19 rfl (by decide) (by decide) rfl (Nat.le_of_ble_eq_true rfl) ?_
  rintro _ V9 ⟨rfl, h9⟩; subst V9
  rw [hM _ (by omega)]
  rw [show s (49 + 12 * p + 1) = nI a from ea]
  refine Ew.istore_n hx dX12_daysToCome_8 (by decide) rfl ?_
  exact lp_X12_dtc hM hW hp hp12 ea eb hab hb hx hq (b + 1 - a) 0 (by omega)
noncomputable def cOx (s : Sv) (q x : Int32) (D n : Nat) : Nat := cntN (fun p => ¬ nI p = q ∧ pf s p 0 = x ∧ cms s p D) n
def fitQ (s : Sv) (q : Int32) (r a b : Nat) (dr : Int32) : Prop := ∀ D, a ≤ D → D ≤ b → opn s r dr (FC s (D - tN s)) ∧ nI (cOx s q (nI r) D (npN s)) < rf s r 1
set_option maxHeartbeats 4000000 in
set_option maxRecDepth 100000 in
theorem lp_X12_oth {G : GT} {C : CT} {V : Mm} {s : Sv} {B : Int} (hM : MR V s) (hW : WF s B) (x q : Int32) (D : Nat) (hx : Cx G mX12_othersOn 2 C) (hq : Cq G (Ri (nI (cOx s q x D (npN s))) V) C) : ∀ (n i : Nat), i + n = npN s → Ew G C (V) 6 [some (adr G 532), some (.int x), some (.int (nI D)), some (.int q), some (.int (nI (cOx s q x D i))), some (.int (nI i))] [] := by
  intro n
  induction n with
  | zero =>
    intro i hi
    refine Ew.iload hx dX12_othersOn_6 rfl ?_
    refine Ew.aload_n hx dX12_othersOn_8 rfl ?_
    refine Ew.getR (533) hx dX12_othersOn_9 fg_RX12_7 rfl rfl ?_
    refine Ew.iconst hx dX12_othersOn_12 k_iconst_3 ?_
    refine Ew.iald (i := 3) hx dX12_othersOn_13 ag_20 rfl (rfl) (by decide) ?_
    have hnp := hW.np
    rw [hM 3 (by decide), hnp.1]
    refine Ew.icmp_ge_t hx (tgt := 60) dX12_othersOn_14 rfl (nI_le (by omega) (by omega)) ?_
    refine Ew.iload hx dX12_othersOn_60 rfl ?_
    refine Ew.iret hx hq dX12_othersOn_62 rfl ?_
    refine ⟨congrArg (fun z => some (Value.int z)) ?_, rfl⟩
    rw [show i = npN s by omega]
  | succ n ih =>
    intro i hi
    refine Ew.iload hx dX12_othersOn_6 rfl ?_
    refine Ew.aload_n hx dX12_othersOn_8 rfl ?_
    refine Ew.getR (533) hx dX12_othersOn_9 fg_RX12_7 rfl rfl ?_
    refine Ew.iconst hx dX12_othersOn_12 k_iconst_3 ?_
    refine Ew.iald (i := 3) hx dX12_othersOn_13 ag_20 rfl (rfl) (by decide) ?_
    have hnp := hW.np
    rw [hM 3 (by decide), hnp.1]
    refine Ew.icmp_ge_f hx (tgt := 60) dX12_othersOn_14 rfl (nI_ge (by omega) (by omega)) ?_
    refine Ew.iload hx dX12_othersOn_17 rfl ?_
    refine Ew.iload hx dX12_othersOn_19 rfl ?_
    refine Ew.iload_n hx dX12_othersOn_21 rfl ?_
    refine Ew.icmp_eq hx (tgt := 50) dX12_othersOn_22 rfl (fun h22 => ?_) (fun h22 => ?_)
    · have hc : nI (cOx s q x D i) + 0 = nI (cOx s q x D (i + 1)) := by unfold cOx; rw [cntN_f (P := fun p => ¬ nI p = q ∧ pf s p 0 = x ∧ cms s p D) (fun z => z.1 h22)]; exact Int32.add_zero _
      refine Ew.iconst hx dX12_othersOn_50 k_iconst_0 ?_
      refine Ew.iadd hx dX12_othersOn_51 ?_
      rw [hc]
      refine Ew.istore hx dX12_othersOn_52 (by decide) rfl ?_
      refine Ew.iinc hx dX12_othersOn_54 rfl (k_iinc_1 _) (by decide) rfl ?_
      refine Ew.goto hx (tgt := 6) dX12_othersOn_57 rfl ?_
      rw [nI_1]
      exact ih (i + 1) (by omega)
    · refine Ew.aload_n hx dX12_othersOn_25 rfl ?_
      refine Ew.iload hx dX12_othersOn_26 rfl ?_
      refine Ew.iconst hx dX12_othersOn_28 k_iconst_0 ?_
      refine Ew.callV2 (y' := mX12_of) hx dX12_othersOn_29 ml_RX12_53 cf_X12_of cv_X12_of (ct_X12_of G V (p := i) (by omega) (j := 0) (by decide)) rfl oc_19 rfl (by decide) (by decide) rfl (Nat.le_of_ble_eq_true rfl) ?_
      rintro _ V9 ⟨rfl, h9⟩; subst V9
      rw [hM _ (by omega)]
      refine Ew.iload_n hx dX12_othersOn_32 rfl ?_
      refine Ew.icmp_ne hx (tgt := 50) dX12_othersOn_33 rfl (fun h33 => ?_) (fun h33 => ?_)
      · have hc : nI (cOx s q x D i) + 0 = nI (cOx s q x D (i + 1)) := by unfold cOx; rw [cntN_f (P := fun p => ¬ nI p = q ∧ pf s p 0 = x ∧ cms s p D) (fun z => h33 z.2.1)]; exact Int32.add_zero _
        refine Ew.iconst hx dX12_othersOn_50 k_iconst_0 ?_
        refine Ew.iadd hx dX12_othersOn_51 ?_
        rw [hc]
        refine Ew.istore hx dX12_othersOn_52 (by decide) rfl ?_
        refine Ew.iinc hx dX12_othersOn_54 rfl (k_iinc_1 _) (by decide) rfl ?_
        refine Ew.goto hx (tgt := 6) dX12_othersOn_57 rfl ?_
        rw [nI_1]
        exact ih (i + 1) (by omega)
      · refine Ew.aload_n hx dX12_othersOn_36 rfl ?_
        refine Ew.iload hx dX12_othersOn_37 rfl ?_
        refine Ew.iload_n hx dX12_othersOn_39 rfl ?_
        refine Ew.callV2 (y' := mX12_comes) hx dX12_othersOn_40 ml_RX12_56 cf_X12_comes cv_X12_comes (ct_X12_comes G V hM (p := i) (by omega) D) rfl oc_19 rfl (by decide) (by decide) rfl (Nat.le_of_ble_eq_true rfl) ?_
        rintro _ V9 ⟨rfl, h9⟩; subst V9
        refine Ew.ifeq_b hx (tgt := 50) dX12_othersOn_43 rfl (fun h43 => ?_) (fun h43 => ?_)
        · have hc : nI (cOx s q x D i) + 0 = nI (cOx s q x D (i + 1)) := by unfold cOx; rw [cntN_f (P := fun p => ¬ nI p = q ∧ pf s p 0 = x ∧ cms s p D) (fun z => h43 z.2.2)]; exact Int32.add_zero _
          refine Ew.iconst hx dX12_othersOn_50 k_iconst_0 ?_
          refine Ew.iadd hx dX12_othersOn_51 ?_
          rw [hc]
          refine Ew.istore hx dX12_othersOn_52 (by decide) rfl ?_
          refine Ew.iinc hx dX12_othersOn_54 rfl (k_iinc_1 _) (by decide) rfl ?_
          refine Ew.goto hx (tgt := 6) dX12_othersOn_57 rfl ?_
          rw [nI_1]
          exact ih (i + 1) (by omega)
        · have hc : nI (cOx s q x D i) + 1 = nI (cOx s q x D (i + 1)) := by unfold cOx; rw [cntN_t (P := fun p => ¬ nI p = q ∧ pf s p 0 = x ∧ cms s p D) ⟨h22, h33, h43⟩, nI_succ]
          refine Ew.iconst hx dX12_othersOn_46 k_iconst_1 ?_
          refine Ew.goto hx (tgt := 51) dX12_othersOn_47 rfl ?_
          refine Ew.iadd hx dX12_othersOn_51 ?_
          rw [hc]
          refine Ew.istore hx dX12_othersOn_52 (by decide) rfl ?_
          refine Ew.iinc hx dX12_othersOn_54 rfl (k_iinc_1 _) (by decide) rfl ?_
          refine Ew.goto hx (tgt := 6) dX12_othersOn_57 rfl ?_
          rw [nI_1]
          exact ih (i + 1) (by omega)
set_option maxHeartbeats 4000000 in
set_option maxRecDepth 100000 in
theorem ct_X12_othersOn (G : GT) (V : Mm) {s : Sv} {B : Int} (hM : MR V s) (hW : WF s B) (x q : Int32) (D : Nat) : Ct G mX12_othersOn 2 [adr G 532, .int x, .int (nI D), .int q] (V) (Ri (nI (cOx s q x D (npN s))) V) := by
  refine Ct.of cf_X12_othersOn (List.forall_mem_cons.mpr ⟨rfl, List.forall_mem_cons.mpr ⟨rfl, List.forall_mem_cons.mpr ⟨rfl, List.forall_mem_cons.mpr ⟨rfl, fun _ h => absurd h List.not_mem_nil⟩⟩⟩⟩) (Nat.le_of_ble_eq_true rfl) (l0 := [some (adr G 532), some (.int x), some (.int (nI D)), some (.int q), none, none]) rfl (fun C hx hq => ?_)
  refine Ew.iconst hx dX12_othersOn_0 k_iconst_0 ?_
  refine Ew.istore hx dX12_othersOn_1 (by decide) rfl ?_
  refine Ew.iconst hx dX12_othersOn_3 k_iconst_0 ?_
  refine Ew.istore hx dX12_othersOn_4 (by decide) rfl ?_
  exact lp_X12_oth hM hW x q D hx hq (npN s) 0 (by omega)
