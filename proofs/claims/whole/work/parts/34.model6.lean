set_option maxHeartbeats 4000000 in
set_option maxRecDepth 100000 in
theorem fit_0 {G : GT} {C : CT} {V : Mm} {s : Sv} {q dr : Int32} {r a b i : Nat} (hb : b ≤ 181) (hi : i ≤ 182) (hn : ¬ fitQ s q r a b dr) (hx : Cx G mX12_fits 3 C) (hq : Cq G (fun v V9 => v = some (.int (b2i (fitQ s q r a b dr))) ∧ V9 = fV V s 182) C) : Ew G C (fV V s 182) 10 [some (adr G 532), some (.int q), some (.int (nI r)), some (.int (nI a)), some (.int (nI b)), some (.int dr), some (.int 0), some (.int (nI i))] [] := by
  refine Ew.iload hx dX12_fits_10 rfl ?_
  refine Ew.iload hx dX12_fits_12 rfl ?_
  refine Ew.icmp_gt hx (tgt := 69) dX12_fits_14 rfl (fun h14 => ?_) (fun h14 => ?_)
  · refine Ew.iload hx dX12_fits_69 rfl ?_
    refine Ew.bret hx hq dX12_fits_71 rfl (Or.inl rfl) ?_
    refine ⟨congrArg (fun z => some (Value.int z)) ?_, rfl⟩
    exact (b2i_f hn).symm
  · refine Ew.iload hx dX12_fits_17 rfl ?_
    refine Ew.if_eq_t hx (tgt := 69) dX12_fits_19 rfl (rfl) ?_
    refine Ew.iload hx dX12_fits_69 rfl ?_
    refine Ew.bret hx hq dX12_fits_71 rfl (Or.inl rfl) ?_
    refine ⟨congrArg (fun z => some (Value.int z)) ?_, rfl⟩
    exact (b2i_f hn).symm
set_option maxHeartbeats 4000000 in
set_option maxRecDepth 100000 in
theorem lp_X12_fits {G : GT} {C : CT} {V : Mm} {s : Sv} {B : Int} (hM : MR V s) (hW : WF s B) {q dr : Int32} {r a b : Nat} (hr : r < 4) (ha : tN s ≤ a) (hb : b ≤ 181) (hx : Cx G mX12_fits 3 C) (hq : Cq G (fun v V9 => v = some (.int (b2i (fitQ s q r a b dr))) ∧ V9 = fV V s 182) C) : ∀ (n i : Nat), i + n = b + 1 → a ≤ i → (∀ D, a ≤ D → D < i → opn s r dr (FC s (D - tN s)) ∧ nI (cOx s q (nI r) D (npN s)) < rf s r 1) → Ew G C (fV V s 182) 10 [some (adr G 532), some (.int q), some (.int (nI r)), some (.int (nI a)), some (.int (nI b)), some (.int dr), some (.int 1), some (.int (nI i))] [] := by
  intro n
  induction n with
  | zero =>
    intro i hi hai hs
    refine Ew.iload hx dX12_fits_10 rfl ?_
    refine Ew.iload hx dX12_fits_12 rfl ?_
    refine Ew.icmp_gt_t hx (tgt := 69) dX12_fits_14 rfl (nI_lt (by omega) (by omega)) ?_
    refine Ew.iload hx dX12_fits_69 rfl ?_
    refine Ew.bret hx hq dX12_fits_71 rfl (Or.inr rfl) ?_
    refine ⟨congrArg (fun z => some (Value.int z)) ?_, rfl⟩
    exact (b2i_t (fun D h1 h2 => hs D h1 (by omega))).symm
  | succ n ih =>
    intro i hi hai hs
    refine Ew.iload hx dX12_fits_10 rfl ?_
    refine Ew.iload hx dX12_fits_12 rfl ?_
    refine Ew.icmp_gt_f hx (tgt := 69) dX12_fits_14 rfl (nI_nlt (by omega) (by omega)) ?_
    refine Ew.iload hx dX12_fits_17 rfl ?_
    refine Ew.if_eq_f hx (tgt := 69) dX12_fits_19 rfl (by decide) ?_
    refine Ew.aload_n hx dX12_fits_22 rfl ?_
    refine Ew.iload_n hx dX12_fits_23 rfl ?_
    refine Ew.iload hx dX12_fits_24 rfl ?_
    refine Ew.aload_n hx dX12_fits_26 rfl ?_
    refine Ew.getR (536) hx dX12_fits_27 fg_RX12_19 rfl rfl ?_
    refine Ew.iload hx dX12_fits_30 rfl ?_
    refine Ew.iald (i := i) hx dX12_fits_32 ag_22 rfl (rfl) (by omega) ?_
    rw [fV_at V s (by omega)]
    refine Ew.callV2 (y' := mX12_isOpen) hx dX12_fits_33 ml_RX12_62 cf_X12_isOpen cv_X12_isOpen (ct_X12_isOpen G _ (hM.fV 182) hr dr _) rfl oc_19 rfl (by decide) (by decide) rfl (Nat.le_of_ble_eq_true rfl) ?_
    rintro _ V9 ⟨rfl, h9⟩; subst V9
    refine Ew.ifeq_b hx (tgt := 60) dX12_fits_36 rfl (fun h36 => ?_) (fun h36 => ?_)
    · have hn : ¬ fitQ s q r a b dr := fun z => h36 (z i (by omega) (by omega)).1
      refine Ew.iconst hx dX12_fits_60 k_iconst_0 ?_
      refine Ew.istore hx dX12_fits_61 (by decide) rfl ?_
      refine Ew.iinc hx dX12_fits_63 rfl (k_iinc_1 _) (by decide) rfl ?_
      refine Ew.goto hx (tgt := 10) dX12_fits_66 rfl ?_
      rw [nI_1]
      first
        | exact fit_0 hb (by omega) hn hx hq
        | exact ih (i + 1) (by omega) (by omega) (fun D h1 h2 => by
            rcases Nat.lt_or_ge D i with z | z
            · exact hs D h1 z
            · rw [show D = i by omega]; exact hk)
    · refine Ew.aload_n hx dX12_fits_39 rfl ?_
      refine Ew.iload_n hx dX12_fits_40 rfl ?_
      refine Ew.iload hx dX12_fits_41 rfl ?_
      refine Ew.iload_n hx dX12_fits_43 rfl ?_
      refine Ew.callV2 (y' := mX12_othersOn) hx dX12_fits_44 ml_RX12_65 cf_X12_othersOn cv_X12_othersOn (ct_X12_othersOn G _ (hM.fV 182) hW (nI r) q i) rfl oc_19 rfl (by decide) (by decide) rfl (Nat.le_of_ble_eq_true rfl) ?_
      rintro _ V9 ⟨rfl, h9⟩; subst V9
      refine Ew.aload_n hx dX12_fits_47 rfl ?_
      refine Ew.iload_n hx dX12_fits_48 rfl ?_
      refine Ew.iconst hx dX12_fits_49 k_iconst_1 ?_
      refine Ew.callV2 (y' := mX12_ofRamp) hx dX12_fits_50 ml_RX12_50 cf_X12_ofRamp cv_X12_ofRamp (ct_X12_ofRamp G _ hr (j := 1) (by decide)) rfl oc_19 rfl (by decide) (by decide) rfl (Nat.le_of_ble_eq_true rfl) ?_
      rintro _ V9 ⟨rfl, h9⟩; subst V9
      rw [hM.fV 182 _ (by omega)]
      refine Ew.icmp_ge hx (tgt := 60) dX12_fits_53 rfl (fun h53 => ?_) (fun h53 => ?_)
      · have hn : ¬ fitQ s q r a b dr := fun z => by have z2 := (z i (by omega) (by omega)).2; unfold rf at z2; rw [il] at z2; rw [ie] at h53; omega
        refine Ew.iconst hx dX12_fits_60 k_iconst_0 ?_
        refine Ew.istore hx dX12_fits_61 (by decide) rfl ?_
        refine Ew.iinc hx dX12_fits_63 rfl (k_iinc_1 _) (by decide) rfl ?_
        refine Ew.goto hx (tgt := 10) dX12_fits_66 rfl ?_
        rw [nI_1]
        first
          | exact fit_0 hb (by omega) hn hx hq
          | exact ih (i + 1) (by omega) (by omega) (fun D h1 h2 => by
              rcases Nat.lt_or_ge D i with z | z
              · exact hs D h1 z
              · rw [show D = i by omega]; exact hk)
      · have hk : opn s r dr (FC s (i - tN s)) ∧ nI (cOx s q (nI r) i (npN s)) < rf s r 1 := ⟨h36, by unfold rf; rw [il]; rw [ie] at h53; omega⟩
        refine Ew.iconst hx dX12_fits_56 k_iconst_1 ?_
        refine Ew.goto hx (tgt := 61) dX12_fits_57 rfl ?_
        refine Ew.istore hx dX12_fits_61 (by decide) rfl ?_
        refine Ew.iinc hx dX12_fits_63 rfl (k_iinc_1 _) (by decide) rfl ?_
        refine Ew.goto hx (tgt := 10) dX12_fits_66 rfl ?_
        rw [nI_1]
        first
          | exact fit_0 hb (by omega) hn hx hq
          | exact ih (i + 1) (by omega) (by omega) (fun D h1 h2 => by
              rcases Nat.lt_or_ge D i with z | z
              · exact hs D h1 z
              · rw [show D = i by omega]; exact hk)
theorem fitQ_e {s : Sv} {q : Int32} {r a b : Nat} {dr : Int32} (h : ∀ p, p < npN s → pf s p 0 = nI r → ¬ nI p = q) : fitQ s q r a b dr ↔ fitP s r a b dr := by
  have key : ∀ D n, n ≤ npN s → cOx s q (nI r) D n = cOn s (nI r) D n := by
    intro D n
    induction n with
    | zero => intro _; rfl
    | succ n ih =>
      intro hn
      have ih2 := ih (by omega)
      unfold cOx cOn at ih2 ⊢
      by_cases z : pf s n 0 = nI r ∧ cms s n D
      · rw [cntN_t (P := fun p => pf s p 0 = nI r ∧ cms s p D) z, cntN_t (P := fun p => ¬ nI p = q ∧ pf s p 0 = nI r ∧ cms s p D) ⟨h n (by omega) z.1, z⟩, ih2]
      · rw [cntN_f (P := fun p => pf s p 0 = nI r ∧ cms s p D) z, cntN_f (P := fun p => ¬ nI p = q ∧ pf s p 0 = nI r ∧ cms s p D) (fun w => z w.2), ih2]
  unfold fitQ fitP
  exact ⟨fun z D h1 h2 => by rw [← key D _ (Nat.le_refl _)]; exact z D h1 h2, fun z D h1 h2 => by rw [key D _ (Nat.le_refl _)]; exact z D h1 h2⟩
set_option maxHeartbeats 4000000 in
set_option maxRecDepth 100000 in
theorem ct_X12_fits (G : GT) (V : Mm) {s : Sv} {B : Int} (hM : MR V s) (hW : WF s B) (q dr : Int32) {r a b : Nat} (hr : r < 4) (ha : tN s ≤ a) (hab : a ≤ b) (hb : b ≤ 181) : Ct G mX12_fits 3 [adr G 532, .int q, .int (nI r), .int (nI a), .int (nI b), .int dr] (V) (fun v V9 => v = some (.int (b2i (fitQ s q r a b dr))) ∧ V9 = fV V s 182) := by
  refine Ct.of cf_X12_fits (List.forall_mem_cons.mpr ⟨rfl, List.forall_mem_cons.mpr ⟨rfl, List.forall_mem_cons.mpr ⟨rfl, List.forall_mem_cons.mpr ⟨rfl, List.forall_mem_cons.mpr ⟨rfl, List.forall_mem_cons.mpr ⟨rfl, fun _ h => absurd h List.not_mem_nil⟩⟩⟩⟩⟩⟩) (Nat.le_of_ble_eq_true rfl) (l0 := [some (adr G 532), some (.int q), some (.int (nI r)), some (.int (nI a)), some (.int (nI b)), some (.int dr), none, none]) rfl (fun C hx hq => ?_)
  refine Ew.aload_n hx dX12_fits_0 rfl ?_
  refine Ew.callV2 (y' := mX12_foresee) hx dX12_fits_1 ml_RX12_59 cf_X12_foresee cv_X12_foresee (ct_X12_foresee G V hM hW) rfl oc_19 rfl (by decide) (by decide) rfl (Nat.le_of_ble_eq_true rfl) ?_
  rintro _ V9 ⟨rfl, h9⟩; subst V9
  refine Ew.iconst hx dX12_fits_4 k_iconst_1 ?_
  refine Ew.istore hx dX12_fits_5 (by decide) rfl ?_
  refine Ew.iload_n hx dX12_fits_7 rfl ?_
  refine Ew.istore hx dX12_fits_8 (by decide) rfl ?_
  exact lp_X12_fits hM hW hr ha hb hx hq (b + 1 - a) a (by omega) (Nat.le_refl _) (fun D h1 h2 => absurd h2 (by omega))
set_option maxHeartbeats 4000000 in
set_option maxRecDepth 100000 in
theorem ct_X12_firstToCome (G : GT) (V : Mm) {s : Sv} {B : Int} (hM : MR V s) (hW : WF s B) {p : Nat} (hp : p < npN s) : Ct G mX12_firstToCome 1 [adr G 532, .int (nI p)] (V) (Ri (nI (ftc s p)) V) := by
  refine Ct.of cf_X12_firstToCome (List.forall_mem_cons.mpr ⟨rfl, List.forall_mem_cons.mpr ⟨rfl, fun _ h => absurd h List.not_mem_nil⟩⟩) (Nat.le_of_ble_eq_true rfl) (l0 := [some (adr G 532), some (.int (nI p))]) rfl (fun C hx hq => ?_)
  have hp12 : p < 12 := by have := hW.np.2; omega
  obtain ⟨r, a, b, er, hr, ea, eb, hab, hb, -⟩ := hW.pn hp
  have ht := hW.t
  have ef : fiN s p = a := by unfold fiN; rw [ea, tn (by omega)]; rfl
  have efc : ftc s p = if a < tN s then tN s else a := by unfold ftc; rw [ef]
  refine Ew.aload_n hx dX12_firstToCome_0 rfl ?_
  refine Ew.iload_n hx dX12_firstToCome_1 rfl ?_
  refine Ew.iconst hx dX12_firstToCome_2 k_iconst_1 ?_
  refine Ew.callV2 (y' := mX12_of) hx dX12_firstToCome_3 ml_RX12_53 cf_X12_of cv_X12_of (ct_X12_of G V hp12 (j := 1) (by decide)) rfl oc_19 rfl (by decide) (by decide) rfl (Nat.le_of_ble_eq_true rfl) ?_
  rintro _ V9 ⟨rfl, h9⟩; subst V9
  rw [hM _ (by omega), show s (49 + 12 * p + 1) = nI a from ea]
  refine Ew.aload_n hx dX12_firstToCome_6 rfl ?_
  refine Ew.getR (533) hx dX12_firstToCome_7 fg_RX12_7 rfl rfl ?_
  refine Ew.iconst hx dX12_firstToCome_10 k_iconst_0 ?_
  refine Ew.iald (i := 0) hx dX12_firstToCome_11 ag_20 rfl (rfl) (by decide) ?_
  rw [hM 0 (by decide), ht.1]
  refine Ew.icmp_ge hx (tgt := 24) dX12_firstToCome_12 rfl (fun h12 => ?_) (fun h12 => ?_)
  · have e2 : ftc s p = a := by rw [efc, if_neg (by rw [ie, tn (by omega), tn (by omega)] at h12; omega)]
    refine Ew.aload_n hx dX12_firstToCome_24 rfl ?_
    refine Ew.iload_n hx dX12_firstToCome_25 rfl ?_
    refine Ew.iconst hx dX12_firstToCome_26 k_iconst_1 ?_
    refine Ew.callV2 (y' := mX12_of) hx dX12_firstToCome_27 ml_RX12_53 cf_X12_of cv_X12_of (ct_X12_of G V hp12 (j := 1) (by decide)) rfl oc_19 rfl (by decide) (by decide) rfl (Nat.le_of_ble_eq_true rfl) ?_
    rintro _ V9 ⟨rfl, h9⟩; subst V9
    rw [hM _ (by omega), show s (49 + 12 * p + 1) = nI a from ea]
    refine Ew.iret hx hq dX12_firstToCome_30 rfl ?_
    refine ⟨congrArg (fun z => some (Value.int z)) ?_, rfl⟩
    rw [e2]
  · have e2 : ftc s p = tN s := by rw [efc, if_pos (by rw [ie, tn (by omega), tn (by omega)] at h12; omega)]
    refine Ew.aload_n hx dX12_firstToCome_15 rfl ?_
    refine Ew.getR (533) hx dX12_firstToCome_16 fg_RX12_7 rfl rfl ?_
    refine Ew.iconst hx dX12_firstToCome_19 k_iconst_0 ?_
    refine Ew.iald (i := 0) hx dX12_firstToCome_20 ag_20 rfl (rfl) (by decide) ?_
    rw [hM 0 (by decide), ht.1]
    refine Ew.goto hx (tgt := 30) dX12_firstToCome_21 rfl ?_
    refine Ew.iret hx hq dX12_firstToCome_30 rfl ?_
    refine ⟨congrArg (fun z => some (Value.int z)) ?_, rfl⟩
    rw [e2]
