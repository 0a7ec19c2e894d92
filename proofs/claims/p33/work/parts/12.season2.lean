theorem lw_sp {s : Sv} {B : Int} (hW : WF s B) (a : Nat) : ∀ n, (∀ i, i < n → a ≤ tN s + i → (lwF s a n).toInt ≤ (FC s i).toInt) ∧ (lwF s a n = 5000 ∨ ∃ i, i < n ∧ a ≤ tN s + i ∧ lwF s a n = FC s i) ∧ (0 ≤ (lwF s a n).toInt ∧ (lwF s a n).toInt ≤ 5000)
  | 0 => ⟨fun i hi => absurd hi (Nat.not_lt_zero i), Or.inl rfl, by show (0 : Int) ≤ (5000 : Int32).toInt ∧ (5000 : Int32).toInt ≤ 5000; decide⟩
  | n + 1 => by
    obtain ⟨h1, h2, h3⟩ := lw_sp hW a n
    by_cases hc : a ≤ tN s + n ∧ FC s n < lwF s a n
    · have e : lwF s a (n + 1) = FC s n := if_pos hc
      have hb := FC_b hW n
      have hc2 := hc.2
      rw [il] at hc2
      rw [e]
      refine ⟨fun i hi ha => ?_, Or.inr ⟨n, by omega, hc.1, rfl⟩, hb⟩
      by_cases hin : i = n
      · subst hin; omega
      · have := h1 i (by omega) ha
        omega
    · have e : lwF s a (n + 1) = lwF s a n := if_neg hc
      rw [e]
      refine ⟨fun i hi ha => ?_, ?_, h3⟩
      · by_cases hin : i = n
        · subst hin
          by_cases hl : FC s i < lwF s a i
          · exact absurd ⟨ha, hl⟩ hc
          · rw [il] at hl; omega
        · exact h1 i (by omega) ha
      · rcases h2 with h | ⟨i, hi, ha, he⟩
        · exact Or.inl h
        · exact Or.inr ⟨i, by omega, ha, he⟩
theorem opn_iff {s : Sv} {B : Int} (hW : WF s B) {r : Nat} (hr : r < nrN s) {dr lv : Int32} (hl : 0 ≤ lv.toInt ∧ lv.toInt ≤ 5000) : opn s r dr lv ↔ dr.toInt ≤ lv.toInt - (rf s r 0).toInt := by
  have h := (hW.rm hr).1
  unfold opn
  rw [ie, subT (by omega) (by omega)]
theorem lw_opn {s : Sv} {B : Int} (hW : WF s B) {r a b : Nat} (hr : r < nrN s) (hta : tN s ≤ a) (hab : a ≤ b) (dr : Int32) : opn s r dr (lwF s a (b + 1 - tN s)) ↔ ∀ D, a ≤ D → D ≤ b → opn s r dr (FC s (D - tN s)) := by
  obtain ⟨h1, h2, h3⟩ := lw_sp hW a (b + 1 - tN s)
  rw [opn_iff hW hr h3]
  constructor
  · intro h D hD hD2
    rw [opn_iff hW hr (FC_b hW _)]
    have := h1 (D - tN s) (by omega) (by omega)
    omega
  · intro h
    have ha := (opn_iff hW hr (FC_b hW _)).mp (h a (Nat.le_refl a) hab)
    rcases h2 with e | ⟨i, hi, hai, e⟩
    · have q := FC_b hW (a - tN s)
      have : (lwF s a (b + 1 - tN s)).toInt = 5000 := by rw [e]; exact tl_5000
      omega
    · have := (opn_iff hW hr (FC_b hW _)).mp (h (tN s + i) hai (by omega))
      rw [Nat.add_sub_cancel_left] at this
      rw [e]
      exact this
theorem clN_lo {s : Sv} {B : Int} (hW : WF s B) {p : Nat} : ∀ n, n ≤ tN s → clN s p n = 0 := fun n hn => cntN_0 n (fun i hi q => by
  have h1 := q.1.2.1
  have ht := hW.t
  rw [ht.1, ie, tn (by omega), tn (by omega)] at h1
  omega)
noncomputable def cif {α : Type} (P : Prop) (a b : α) : α := @ite α P (Classical.propDecidable P) a b
theorem cif_t {α : Type} {P : Prop} {a b : α} (h : P) : cif P a b = a := if_pos h
theorem cif_f {α : Type} {P : Prop} {a b : α} (h : ¬ P) : cif P a b = b := if_neg h
noncomputable def fcS (s : Sv) (r : Nat) (dr : Int32) : Nat → Nat → Int32
  | 0, _ => -100009
  | n + 1, i => cif (opn s r dr (FC s i)) (fcS s r dr n (i + 1)) (nI (tN s + i))
noncomputable def bO (s : Sv) (a b : Nat) (dr : Int32) : Nat → Option Nat
  | 0 => none
  | n + 1 => cif ((∀ r, bO s a b dr n = some r → rf s n 2 < rf s r 2) ∧ fitP s n a b dr) (some n) (bO s a b dr n)
def bV (o : Option Nat) : Int32 := match o with
  | none => -100009
  | some r => nI r
def bFe (s : Sv) (o : Option Nat) : Int32 := match o with
  | none => 501
  | some r => rf s r 2
set_option maxHeartbeats 4000000 in
set_option maxRecDepth 100000 in
theorem lp_X7_fits {G : GT} {C : CT} {V : Mm} {s : Sv} {B : Int} (hR : Rep V 2 s) (hW : WF s B) {r a b : Nat} (hr : r < nrN s) (hb : b ≤ 181) (dr : Int32) (ho : ∀ D, a ≤ D → D ≤ b → opn s r dr (FC s (D - tN s))) (hx : Cx G mX7_fits 2 C) (hq : Cq G (Ri (b2i (fitP s r a b dr)) V) C) : ∀ (n i : Nat), i + n = b + 1 → a ≤ i → (∀ D, a ≤ D → D < i → nI (cOn s (nI r) D (npN s)) < rf s r 1) → Ew G C (V) 36 [some (adr G 2), some (.int (nI r)), some (.int (nI a)), some (.int (nI b)), some (.int dr), some (.int (nI i))] [] := by
  intro n
  induction n with
  | zero =>
    intro i hi hai hpre
    refine Ew.iload hx dX7_fits_36 rfl ?_
    refine Ew.iload_n hx dX7_fits_38 rfl ?_
    refine Ew.icmp_gt_t hx (tgt := 69) dX7_fits_39 rfl (nI_lt (by omega) (by omega)) ?_
    refine Ew.iconst hx dX7_fits_69 k_iconst_1 ?_
    refine Ew.bret hx hq dX7_fits_70 rfl (by first | exact b2i_01 _ | decide) ?_
    rw [b2i_t (show fitP s r a b dr from fun D h1 h2 => ⟨ho D h1 h2, hpre D h1 (by omega)⟩)]
    exact ⟨rfl, rfl⟩
  | succ n ih =>
    intro i hi hai hpre
    refine Ew.iload hx dX7_fits_36 rfl ?_
    refine Ew.iload_n hx dX7_fits_38 rfl ?_
    have hnr := hW.nr.2
    refine Ew.icmp_gt_f hx (tgt := 69) dX7_fits_39 rfl (nI_nlt (by omega) (by omega)) ?_
    refine Ew.aload_n hx dX7_fits_42 rfl ?_
    refine Ew.iload_n hx dX7_fits_43 rfl ?_
    refine Ew.iload hx dX7_fits_44 rfl ?_
    refine Ew.callV2 (y' := mX7_permitsOn) hx dX7_fits_46 ml_RX7_166 cf_X7_permitsOn cv_X7_permitsOn (ct_X7_permitsOn G V hR hW (nI r) i) rfl oc_2 rfl (by decide) (by decide) rfl (Nat.le_of_ble_eq_true rfl) ?_
    rintro _ V9 ⟨rfl, h9⟩; subst V9
    refine Ew.aload_n hx dX7_fits_49 rfl ?_
    refine Ew.getR (8) hx dX7_fits_50 fg_RX7_27 rfl rfl ?_
    refine Ew.iload_n hx dX7_fits_53 rfl ?_
    refine Ew.aldq (10 + r) hx dX7_fits_54 rg_7 rfl (rfl) (by omega) (by omega) ?_
    refine Ew.getI hx dX7_fits_55 fg_RX7_75 (kd_rm (by omega)) ?_
    rw [hR.rm hr (by omega) (by decide)]
    refine Ew.icmp_lt hx (tgt := 63) dX7_fits_58 rfl (fun h58 => ?_) (fun h58 => ?_)
    · refine Ew.iinc hx dX7_fits_63 rfl (k_iinc_1 _) (by decide) rfl ?_
      refine Ew.goto hx (tgt := 36) dX7_fits_66 rfl ?_
      rw [nI_1]
      exact ih (i + 1) (by omega) (by omega) (fun D h1 h2 => by
        by_cases hD : D = i
        · subst hD; exact h58
        · exact hpre D h1 (by omega))
    · refine Ew.iconst hx dX7_fits_61 k_iconst_0 ?_
      refine Ew.bret hx hq dX7_fits_62 rfl (by first | exact b2i_01 _ | decide) ?_
      rw [b2i_f (show ¬ fitP s r a b dr from fun q => h58 (q i hai (by omega)).2)]
      exact ⟨rfl, rfl⟩
set_option maxHeartbeats 4000000 in
set_option maxRecDepth 100000 in
theorem ct_X7_fits (G : GT) (V : Mm) {s : Sv} {B : Int} (hR : Rep V 2 s) (hW : WF s B) {r a b : Nat} (hr : r < nrN s) (hta : tN s ≤ a) (hab : a ≤ b) (hb : b ≤ 181) (dr : Int32) : Ct G mX7_fits 2 [adr G 2, .int (nI r), .int (nI a), .int (nI b), .int dr] (V) (Ri (b2i (fitP s r a b dr)) V) := by
  refine Ct.of cf_X7_fits (List.forall_mem_cons.mpr ⟨rfl, List.forall_mem_cons.mpr ⟨rfl, List.forall_mem_cons.mpr ⟨rfl, List.forall_mem_cons.mpr ⟨rfl, List.forall_mem_cons.mpr ⟨rfl, fun _ h => absurd h List.not_mem_nil⟩⟩⟩⟩⟩) (Nat.le_of_ble_eq_true rfl) (l0 := [some (adr G 2), some (.int (nI r)), some (.int (nI a)), some (.int (nI b)), some (.int dr), none]) rfl (fun C hx hq => ?_)
  have hnr := hW.nr.2
  refine Ew.aload_n hx dX7_fits_0 rfl ?_
  refine Ew.iload_n hx dX7_fits_1 rfl ?_
  refine Ew.callV2 (y' := mX7_hasRamp) hx dX7_fits_2 ml_RX7_81 cf_X7_hasRamp cv_X7_hasRamp (ct_X7_hasRamp G V _ hR) rfl oc_2 rfl (by decide) (by decide) rfl (Nat.le_of_ble_eq_true rfl) ?_
  rintro _ V9 ⟨rfl, h9⟩; subst V9
  rw [b2i_t (⟨by rw [ie, tn (by omega), tl_0]; omega, by rw [il, hW.nr.1, tn (by omega), tn (by omega)]; omega⟩)]
  refine Ew.if_eq_f hx (tgt := 31) dX7_fits_5 rfl (by decide) ?_
  refine Ew.aload_n hx dX7_fits_8 rfl ?_
  refine Ew.getR (8) hx dX7_fits_9 fg_RX7_27 rfl rfl ?_
  refine Ew.iload_n hx dX7_fits_12 rfl ?_
  refine Ew.aldq (10 + r) hx dX7_fits_13 rg_7 rfl (rfl) (by omega) (by omega) ?_
  refine Ew.aload_n hx dX7_fits_14 rfl ?_
  refine Ew.getR (3) hx dX7_fits_15 fg_RX7_12 rfl rfl ?_
  refine Ew.iload_n hx dX7_fits_18 rfl ?_
  refine Ew.iload_n hx dX7_fits_19 rfl ?_
  refine Ew.callV2 (y' := mX10_lowestForecast) hx dX7_fits_20 ml_RX7_163 cf_X10_lowestForecast cv_X10_lowestForecast (ct_X10_lowestForecast G V hR hW a b (by omega) (by omega) (by omega)) rfl oc_3 rfl (by decide) (by decide) rfl (Nat.le_of_ble_eq_true rfl) ?_
  rintro _ V9 ⟨rfl, h9⟩; subst V9
  refine Ew.iload hx dX7_fits_23 rfl ?_
  refine Ew.callV2 (y' := mX6_isOpen) hx dX7_fits_25 ml_RX7_160 cf_X6_isOpen cv_X6_isOpen (ct_X6_isOpen G V (10 + r) _ dr (kd_rm (by omega))) (kd_rm (by omega)) oc_9 rfl (by decide) (by decide) rfl (Nat.le_of_ble_eq_true rfl) ?_
  rintro _ V9 ⟨rfl, h9⟩; subst V9
  rw [hR.rm hr (by omega) (by decide)]
  refine Ew.ifne_b hx (tgt := 33) dX7_fits_28 rfl (fun h28 => ?_) (fun h28 => ?_)
  · have h28 := (lw_opn hW hr hta hab dr).mp h28
    refine Ew.iload_n hx dX7_fits_33 rfl ?_
    refine Ew.istore hx dX7_fits_34 (by decide) rfl ?_
    exact lp_X7_fits hR hW hr hb dr h28 hx hq (b + 1 - a) a (by omega) (Nat.le_refl a) (fun D h1 h2 => absurd h1 (by omega))
  · refine Ew.iconst hx dX7_fits_31 k_iconst_0 ?_
    refine Ew.bret hx hq dX7_fits_32 rfl (by first | exact b2i_01 _ | decide) ?_
    rw [b2i_f (show ¬ fitP s r a b dr from fun q => h28 ((lw_opn hW hr hta hab dr).mpr (fun D h1 h2 => (q D h1 h2).1)))]
    exact ⟨rfl, rfl⟩
set_option maxHeartbeats 4000000 in
set_option maxRecDepth 100000 in
theorem lp_X7_closedDays {G : GT} {C : CT} {V : Mm} {s : Sv} {B : Int} (hR : Rep V 2 s) (hW : WF s B) {p b : Nat} (hp : p < npN s) (eb : pf s p 2 = nI b) (hb : b ≤ 181) (hx : Cx G mX7_closedDays 2 C) (hq : Cq G (Ri (nI (clN s p (b + 1))) V) C) : ∀ (n i : Nat), i + n = b + 1 - tN s → Ew G C (V) 19 [some (adr G 2), some (adr G (14 + p)), some (.int (nI (clN s p (tN s + i)))), some (.int (FC s i)), some (.int (nI (tN s + i)))] [] := by
  intro n
  induction n with
  | zero =>
    intro i hi
    refine Ew.iload hx dX7_closedDays_19 rfl ?_
    have hnp := hW.np.2
    have ht := hW.t
    refine Ew.aload_n hx dX7_closedDays_21 rfl ?_
    refine Ew.getI hx dX7_closedDays_22 fg_RX7_111 (kd_pm (by omega)) ?_
    rw [hR.pm hp (by omega) (by decide), eb]
    refine Ew.icmp_gt_t hx (tgt := 77) dX7_closedDays_25 rfl (nI_lt (by omega) (by omega)) ?_
    refine Ew.iload_n hx dX7_closedDays_77 rfl ?_
    refine Ew.iret hx hq dX7_closedDays_78 rfl ?_
    have e : clN s p (tN s + i) = clN s p (b + 1) := by
      by_cases hc : tN s ≤ b + 1
      · rw [show tN s + i = b + 1 by omega]
      · rw [clN_lo hW _ (by omega), clN_lo hW _ (by omega)]
    rw [e]
    exact ⟨rfl, rfl⟩
  | succ n ih =>
    intro i hi
    refine Ew.iload hx dX7_closedDays_19 rfl ?_
    have hnp := hW.np.2
    have ht := hW.t
    refine Ew.aload_n hx dX7_closedDays_21 rfl ?_
    refine Ew.getI hx dX7_closedDays_22 fg_RX7_111 (kd_pm (by omega)) ?_
    rw [hR.pm hp (by omega) (by decide), eb]
    refine Ew.icmp_gt_f hx (tgt := 77) dX7_closedDays_25 rfl (nI_nlt (by omega) (by omega)) ?_
    refine Ew.aload_n hx dX7_closedDays_28 rfl ?_
    refine Ew.iload hx dX7_closedDays_29 rfl ?_
    refine Ew.aload_n hx dX7_closedDays_31 rfl ?_
    refine Ew.getR (3) hx dX7_closedDays_32 fg_RX7_12 rfl rfl ?_
    refine Ew.getI hx dX7_closedDays_35 fg_RX7_89 rfl ?_
    rw [hR.today]
    refine Ew.callV2 (y' := mX4_comesOn) hx dX7_closedDays_38 ml_RX7_136 cf_X4_comesOn cv_X4_comesOn (ct_X4_comesOn G V (14 + p) _ _ (kd_pm (by omega))) (kd_pm (by omega)) oc_10 rfl (by decide) (by decide) rfl (Nat.le_of_ble_eq_true rfl) ?_
    rintro _ V9 ⟨rfl, h9⟩; subst V9
    rw [hR.pm hp (by omega) (by decide), hR.pm hp (by omega) (by decide), hR.pm hp (by omega) (by decide)]
    refine Ew.ifeq_b hx (tgt := 56) dX7_closedDays_41 rfl (fun h41 => ?_) (fun h41 => ?_)
    · have e : clN s p (tN s + i + 1) = clN s p (tN s + i) := cntN_f (fun q => h41 q.1)
      refine Ew.iload_n hx dX7_closedDays_56 rfl ?_
      refine Ew.aload_n hx dX7_closedDays_57 rfl ?_
      refine Ew.getR (3) hx dX7_closedDays_58 fg_RX7_12 rfl rfl ?_
      refine Ew.iload hx dX7_closedDays_61 rfl ?_
      refine Ew.callV2 (y' := mX10_rateOn) hx dX7_closedDays_63 ml_RX7_176 cf_X10_rateOn cv_X10_rateOn (ct_X10_rateOn G V 3 (tN s + i) rfl rfl (by omega)) rfl oc_3 rfl (by decide) (by decide) rfl (Nat.le_of_ble_eq_true rfl) ?_
      rintro _ V9 ⟨rfl, h9⟩; subst V9
      rw [rtd_c (f := V (3 + 1)) (g := fun w => s (11 + w)) (fun w hw => hR.rate hw)]
      refine Ew.iadd hx dX7_closedDays_66 ?_
      refine Ew.callS (y' := mX10_bounded) hx dX7_closedDays_67 ml_RX7_179 cf_X10_bounded cs_X10_bounded (ct_X10_bounded G _ _) rfl (by decide) (by decide) rfl (Nat.le_of_ble_eq_true rfl) ?_
      rintro _ V9 ⟨rfl, h9⟩; subst V9
      refine Ew.istore_n hx dX7_closedDays_70 (by decide) rfl ?_
      refine Ew.iinc hx dX7_closedDays_71 rfl (k_iinc_1 _) (by decide) rfl ?_
      refine Ew.goto hx (tgt := 19) dX7_closedDays_74 rfl ?_
      have q := ih (i + 1) (by omega)
      rw [show tN s + (i + 1) = tN s + i + 1 from rfl, e] at q
      repeat rw [nI_1]
      exact q
    · refine Ew.aload_n hx dX7_closedDays_44 rfl ?_
      refine Ew.aload_n hx dX7_closedDays_45 rfl ?_
      refine Ew.iload_n hx dX7_closedDays_46 rfl ?_
      refine Ew.callV2 (y' := mX7_isOpenFor) hx dX7_closedDays_47 ml_RX7_139 cf_X7_isOpenFor cv_X7_isOpenFor (ct_X7_isOpenFor G V hR hW p hp (FC s i)) rfl oc_2 rfl (by decide) (by decide) rfl (Nat.le_of_ble_eq_true rfl) ?_
      rintro _ V9 ⟨rfl, h9⟩; subst V9
      refine Ew.ifne_b hx (tgt := 56) dX7_closedDays_50 rfl (fun h50 => ?_) (fun h50 => ?_)
      · have e : clN s p (tN s + i + 1) = clN s p (tN s + i) := cntN_f (fun q => q.2 (by rw [Nat.add_sub_cancel_left]; exact h50))
        refine Ew.iload_n hx dX7_closedDays_56 rfl ?_
        refine Ew.aload_n hx dX7_closedDays_57 rfl ?_
        refine Ew.getR (3) hx dX7_closedDays_58 fg_RX7_12 rfl rfl ?_
        refine Ew.iload hx dX7_closedDays_61 rfl ?_
        refine Ew.callV2 (y' := mX10_rateOn) hx dX7_closedDays_63 ml_RX7_176 cf_X10_rateOn cv_X10_rateOn (ct_X10_rateOn G V 3 (tN s + i) rfl rfl (by omega)) rfl oc_3 rfl (by decide) (by decide) rfl (Nat.le_of_ble_eq_true rfl) ?_
        rintro _ V9 ⟨rfl, h9⟩; subst V9
        rw [rtd_c (f := V (3 + 1)) (g := fun w => s (11 + w)) (fun w hw => hR.rate hw)]
        refine Ew.iadd hx dX7_closedDays_66 ?_
        refine Ew.callS (y' := mX10_bounded) hx dX7_closedDays_67 ml_RX7_179 cf_X10_bounded cs_X10_bounded (ct_X10_bounded G _ _) rfl (by decide) (by decide) rfl (Nat.le_of_ble_eq_true rfl) ?_
        rintro _ V9 ⟨rfl, h9⟩; subst V9
        refine Ew.istore_n hx dX7_closedDays_70 (by decide) rfl ?_
        refine Ew.iinc hx dX7_closedDays_71 rfl (k_iinc_1 _) (by decide) rfl ?_
        refine Ew.goto hx (tgt := 19) dX7_closedDays_74 rfl ?_
        have q := ih (i + 1) (by omega)
        rw [show tN s + (i + 1) = tN s + i + 1 from rfl, e] at q
        repeat rw [nI_1]
        exact q
      · have e : clN s p (tN s + i + 1) = clN s p (tN s + i) + 1 := cntN_t ⟨h41, by rw [Nat.add_sub_cancel_left]; exact h50⟩
        refine Ew.iinc hx dX7_closedDays_53 rfl (k_iinc_1 _) (by decide) rfl ?_
        refine Ew.iload_n hx dX7_closedDays_56 rfl ?_
        refine Ew.aload_n hx dX7_closedDays_57 rfl ?_
        refine Ew.getR (3) hx dX7_closedDays_58 fg_RX7_12 rfl rfl ?_
        refine Ew.iload hx dX7_closedDays_61 rfl ?_
        refine Ew.callV2 (y' := mX10_rateOn) hx dX7_closedDays_63 ml_RX7_176 cf_X10_rateOn cv_X10_rateOn (ct_X10_rateOn G V 3 (tN s + i) rfl rfl (by omega)) rfl oc_3 rfl (by decide) (by decide) rfl (Nat.le_of_ble_eq_true rfl) ?_
        rintro _ V9 ⟨rfl, h9⟩; subst V9
        rw [rtd_c (f := V (3 + 1)) (g := fun w => s (11 + w)) (fun w hw => hR.rate hw)]
        refine Ew.iadd hx dX7_closedDays_66 ?_
        refine Ew.callS (y' := mX10_bounded) hx dX7_closedDays_67 ml_RX7_179 cf_X10_bounded cs_X10_bounded (ct_X10_bounded G _ _) rfl (by decide) (by decide) rfl (Nat.le_of_ble_eq_true rfl) ?_
        rintro _ V9 ⟨rfl, h9⟩; subst V9
        refine Ew.istore_n hx dX7_closedDays_70 (by decide) rfl ?_
        refine Ew.iinc hx dX7_closedDays_71 rfl (k_iinc_1 _) (by decide) rfl ?_
        refine Ew.goto hx (tgt := 19) dX7_closedDays_74 rfl ?_
        have q := ih (i + 1) (by omega)
        rw [show tN s + (i + 1) = tN s + i + 1 from rfl, e] at q
        repeat rw [nI_1]
        exact q
set_option maxHeartbeats 4000000 in
set_option maxRecDepth 100000 in
theorem ct_X7_closedDays (G : GT) (V : Mm) {s : Sv} {B : Int} (hR : Rep V 2 s) (hW : WF s B) {p : Nat} (hp : p < npN s) : Ct G mX7_closedDays 2 [adr G 2, adr G (14 + p)] (V) (Ri (nI (clN s p (laN s p + 1))) V) := by
  refine Ct.of cf_X7_closedDays (List.forall_mem_cons.mpr ⟨rfl, List.forall_mem_cons.mpr ⟨rfl, fun _ h => absurd h List.not_mem_nil⟩⟩) (Nat.le_of_ble_eq_true rfl) (l0 := [some (adr G 2), some (adr G (14 + p)), none, none, none]) rfl (fun C hx hq => ?_)
  refine Ew.iconst hx dX7_closedDays_0 k_iconst_0 ?_
  refine Ew.istore_n hx dX7_closedDays_1 (by decide) rfl ?_
  refine Ew.aload_n hx dX7_closedDays_2 rfl ?_
  refine Ew.getR (3) hx dX7_closedDays_3 fg_RX7_12 rfl rfl ?_
  refine Ew.getI hx dX7_closedDays_6 fg_RX7_64 rfl ?_
  refine Ew.istore_n hx dX7_closedDays_9 (by decide) rfl ?_
  refine Ew.aload_n hx dX7_closedDays_10 rfl ?_
  refine Ew.getR (3) hx dX7_closedDays_11 fg_RX7_12 rfl rfl ?_
  refine Ew.getI hx dX7_closedDays_14 fg_RX7_89 rfl ?_
  refine Ew.istore hx dX7_closedDays_17 (by decide) rfl ?_
  obtain ⟨r, a, b, e1, e2, e3, e4, e5, e6, -⟩ := hW.pn hp
  have eb : laN s p = b := by unfold laN; rw [e4, tn (by omega)]; omega
  rw [eb] at hq
  rw [hR.level, hR.today, hW.t.1]
  have q := lp_X7_closedDays hR hW hp e4 e6 hx hq (b + 1 - tN s) 0 (by omega)
  rw [Nat.add_zero, clN_lo hW (tN s) (Nat.le_refl _)] at q
  exact q
set_option maxHeartbeats 4000000 in
set_option maxRecDepth 100000 in
theorem lp_X7_firstClosedDay {G : GT} {C : CT} {V : Mm} {s : Sv} {B : Int} (hR : Rep V 2 s) (hW : WF s B) {r : Nat} (hr : r < nrN s) (dr : Int32) (ans : Int32) (hx : Cx G mX7_firstClosedDay 1 C) (hq : Cq G (Ri ans V) C) : ∀ (n i : Nat), i + n = 182 - tN s → fcS s r dr n i = ans → Ew G C (V) 17 [some (adr G 2), some (.int (nI r)), some (.int dr), some (.int (FC s i)), some (.int (nI (tN s + i)))] [] := by
  intro n
  induction n with
  | zero =>
    intro i hi hans
    refine Ew.iload hx dX7_firstClosedDay_17 rfl ?_
    refine Ew.sipush hx dX7_firstClosedDay_19 k_sipush_181 ?_
    have ht := hW.t
    refine Ew.icmp_gt_t hx (tgt := 71) dX7_firstClosedDay_22 rfl (by rw [il, tl_181, tn (by omega)]; omega) ?_
    refine Ew.ldc hx dX7_firstClosedDay_71 kn_RX7_182 ?_
    refine Ew.iret hx hq dX7_firstClosedDay_73 rfl ?_
    subst hans
    exact ⟨rfl, rfl⟩
  | succ n ih =>
    intro i hi hans
    refine Ew.iload hx dX7_firstClosedDay_17 rfl ?_
    refine Ew.sipush hx dX7_firstClosedDay_19 k_sipush_181 ?_
    have hnr := hW.nr.2
    have ht := hW.t
    refine Ew.icmp_gt_f hx (tgt := 71) dX7_firstClosedDay_22 rfl (by rw [il, tl_181, tn (by omega)]; omega) ?_
    refine Ew.aload_n hx dX7_firstClosedDay_25 rfl ?_
    refine Ew.iload_n hx dX7_firstClosedDay_26 rfl ?_
    refine Ew.callV2 (y' := mX7_hasRamp) hx dX7_firstClosedDay_27 ml_RX7_81 cf_X7_hasRamp cv_X7_hasRamp (ct_X7_hasRamp G V _ hR) rfl oc_2 rfl (by decide) (by decide) rfl (Nat.le_of_ble_eq_true rfl) ?_
    rintro _ V9 ⟨rfl, h9⟩; subst V9
    rw [b2i_t (⟨by rw [ie, tn (by omega), tl_0]; omega, by rw [il, hW.nr.1, tn (by omega), tn (by omega)]; omega⟩)]
    refine Ew.if_eq_f hx (tgt := 47) dX7_firstClosedDay_30 rfl (by decide) ?_
    refine Ew.aload_n hx dX7_firstClosedDay_33 rfl ?_
    refine Ew.getR (8) hx dX7_firstClosedDay_34 fg_RX7_27 rfl rfl ?_
    refine Ew.iload_n hx dX7_firstClosedDay_37 rfl ?_
    refine Ew.aldq (10 + r) hx dX7_firstClosedDay_38 rg_7 rfl (rfl) (by omega) (by omega) ?_
    refine Ew.iload_n hx dX7_firstClosedDay_39 rfl ?_
    refine Ew.iload_n hx dX7_firstClosedDay_40 rfl ?_
    refine Ew.callV2 (y' := mX6_isOpen) hx dX7_firstClosedDay_41 ml_RX7_160 cf_X6_isOpen cv_X6_isOpen (ct_X6_isOpen G V (10 + r) _ dr (kd_rm (by omega))) (kd_rm (by omega)) oc_9 rfl (by decide) (by decide) rfl (Nat.le_of_ble_eq_true rfl) ?_
    rintro _ V9 ⟨rfl, h9⟩; subst V9
    rw [hR.rm hr (by omega) (by decide)]
    refine Ew.ifne_b hx (tgt := 50) dX7_firstClosedDay_44 rfl (fun h44 => ?_) (fun h44 => ?_)
    · refine Ew.iload_n hx dX7_firstClosedDay_50 rfl ?_
      refine Ew.aload_n hx dX7_firstClosedDay_51 rfl ?_
      refine Ew.getR (3) hx dX7_firstClosedDay_52 fg_RX7_12 rfl rfl ?_
      refine Ew.iload hx dX7_firstClosedDay_55 rfl ?_
      refine Ew.callV2 (y' := mX10_rateOn) hx dX7_firstClosedDay_57 ml_RX7_176 cf_X10_rateOn cv_X10_rateOn (ct_X10_rateOn G V 3 (tN s + i) rfl rfl (by omega)) rfl oc_3 rfl (by decide) (by decide) rfl (Nat.le_of_ble_eq_true rfl) ?_
      rintro _ V9 ⟨rfl, h9⟩; subst V9
      rw [rtd_c (f := V (3 + 1)) (g := fun w => s (11 + w)) (fun w hw => hR.rate hw)]
      refine Ew.iadd hx dX7_firstClosedDay_60 ?_
      refine Ew.callS (y' := mX10_bounded) hx dX7_firstClosedDay_61 ml_RX7_179 cf_X10_bounded cs_X10_bounded (ct_X10_bounded G _ _) rfl (by decide) (by decide) rfl (Nat.le_of_ble_eq_true rfl) ?_
      rintro _ V9 ⟨rfl, h9⟩; subst V9
      refine Ew.istore_n hx dX7_firstClosedDay_64 (by decide) rfl ?_
      refine Ew.iinc hx dX7_firstClosedDay_65 rfl (k_iinc_1 _) (by decide) rfl ?_
      refine Ew.goto hx (tgt := 17) dX7_firstClosedDay_68 rfl ?_
      rw [nI_1]
      exact ih (i + 1) (by omega) (by rw [fcS, cif_t (show opn s r dr (FC s i) from h44)] at hans; exact hans)
    · refine Ew.iload hx dX7_firstClosedDay_47 rfl ?_
      refine Ew.iret hx hq dX7_firstClosedDay_49 rfl ?_
      rw [fcS, cif_f (show ¬ opn s r dr (FC s i) from h44)] at hans
      subst hans
      exact ⟨rfl, rfl⟩
set_option maxHeartbeats 4000000 in
set_option maxRecDepth 100000 in
theorem ct_X7_firstClosedDay (G : GT) (V : Mm) {s : Sv} {B : Int} (hR : Rep V 2 s) (hW : WF s B) {r : Nat} (hr : r < nrN s) (dr : Int32) : Ct G mX7_firstClosedDay 1 [adr G 2, .int (nI r), .int dr] (V) (Ri (fcS s r dr (182 - tN s) 0) V) := by
  refine Ct.of cf_X7_firstClosedDay (List.forall_mem_cons.mpr ⟨rfl, List.forall_mem_cons.mpr ⟨rfl, List.forall_mem_cons.mpr ⟨rfl, fun _ h => absurd h List.not_mem_nil⟩⟩⟩) (Nat.le_of_ble_eq_true rfl) (l0 := [some (adr G 2), some (.int (nI r)), some (.int dr), none, none]) rfl (fun C hx hq => ?_)
  refine Ew.aload_n hx dX7_firstClosedDay_0 rfl ?_
  refine Ew.getR (3) hx dX7_firstClosedDay_1 fg_RX7_12 rfl rfl ?_
  refine Ew.getI hx dX7_firstClosedDay_4 fg_RX7_64 rfl ?_
  refine Ew.istore_n hx dX7_firstClosedDay_7 (by decide) rfl ?_
  refine Ew.aload_n hx dX7_firstClosedDay_8 rfl ?_
  refine Ew.getR (3) hx dX7_firstClosedDay_9 fg_RX7_12 rfl rfl ?_
  refine Ew.getI hx dX7_firstClosedDay_12 fg_RX7_89 rfl ?_
  refine Ew.istore hx dX7_firstClosedDay_15 (by decide) rfl ?_
  rw [hR.level, hR.today, hW.t.1]
  exact lp_X7_firstClosedDay hR hW hr dr _ hx hq (182 - tN s) 0 (by omega) rfl
