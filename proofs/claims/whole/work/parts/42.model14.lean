theorem psS_hi (s : Sv) : ∀ (n m : Nat), 49 + 12 * n ≤ m → psS s n m = s m
  | 0, m, _ => rfl
  | n + 1, m, h => by
    have ih := psS_hi s n m (by omega)
    by_cases hc : cms s n (tN s)
    · rw [show psS s (n + 1) = _ from cif_t hc]
      unfold prow
      rw [if_neg (by omega)]
      exact ih
    · rw [show psS s (n + 1) = _ from cif_f hc]
      exact ih
theorem cms_ps (s : Sv) (i D : Nat) : cms (psS s i) i D = cms s i D := by
  unfold cms pf
  rw [psS_hi s i _ (by omega), psS_hi s i _ (by omega), psS_hi s i _ (by omega), psS_lo s i 0 (by decide)]
theorem opn_ps (s : Sv) (i r : Nat) (hr : r < 4) (a b : Int32) : opn (psS s i) r a b = opn s r a b := by
  unfold opn rf
  rw [psS_lo s i _ (by omega)]
theorem us_eq (f : Nat → Int32) (j : Nat) : upd (upd f 6 (f 6 + f 4)) 9 (f 9 + 1) j = usF f j := by
  unfold usF
  by_cases q : j = 9
  · subst q; rw [upd_s, upd_n _ _ (by decide), upd_s]
  · rw [upd_n _ _ q]
    by_cases q2 : j = 6
    · subst q2; rw [upd_s, upd_s]
    · rw [upd_n _ _ q2, upd_n _ _ q2, upd_n _ _ q]
theorem lo_eq (f : Nat → Int32) (j : Nat) : upd (upd f 7 (f 7 + f 4)) 10 (f 10 + 1) j = loF f j := by
  unfold loF
  by_cases q : j = 10
  · subst q; rw [upd_s, upd_n _ _ (by decide), upd_s]
  · rw [upd_n _ _ q]
    by_cases q2 : j = 7
    · subst q2; rw [upd_s, upd_s]
    · rw [upd_n _ _ q2, upd_n _ _ q2, upd_n _ _ q]
set_option maxHeartbeats 4000000 in
set_option maxRecDepth 100000 in
theorem lp_X12_pass {G : GT} {C : CT} {V : Mm} {s : Sv} {B : Int} (hM : MR V s) (hW : WF s B) {c : Int32} (hx : Cx G mX12_passNow 2 C) (hq : Cq G (fun v V9 => v = some (.int (nI (lsN s (npN s)))) ∧ MR V9 (nxPass s c) ∧ ∀ q, q ≠ 533 → V9 q = V q) C) : ∀ (n i : Nat), i + n = npN s → ∀ W : Mm, MR W (psS s i) → (∀ k, k ≠ 533 → W k = V k) → Ew G C (W) 4 [some (adr G 532), some (.int c), some (.int (nI (lsN s i))), some (.int (nI i)), none] [] := by
  intro n
  induction n with
  | zero =>
    intro i hi W hR hF
    refine Ew.iload_n hx dX12_passNow_4 rfl ?_
    refine Ew.aload_n hx dX12_passNow_5 rfl ?_
    refine Ew.getR (533) hx dX12_passNow_6 fg_RX12_7 rfl rfl ?_
    refine Ew.iconst hx dX12_passNow_9 k_iconst_3 ?_
    refine Ew.iald (i := 3) hx dX12_passNow_10 ag_20 rfl (rfl) (by decide) ?_
    have hnp := hW.np
    rw [hR 3 (by decide), psS_lo _ _ _ (by decide), hnp.1]
    refine Ew.icmp_ge_t hx (tgt := 112) dX12_passNow_11 rfl (nI_le (by omega) (by omega)) ?_
    refine Ew.aload_n hx dX12_passNow_112 rfl ?_
    refine Ew.getR (533) hx dX12_passNow_113 fg_RX12_7 rfl rfl ?_
    refine Ew.iconst hx dX12_passNow_116 k_iconst_1 ?_
    refine Ew.aload_n hx dX12_passNow_117 rfl ?_
    refine Ew.getR (533) hx dX12_passNow_118 fg_RX12_7 rfl rfl ?_
    refine Ew.iconst hx dX12_passNow_121 k_iconst_1 ?_
    refine Ew.iald (i := 1) hx dX12_passNow_122 ag_20 rfl (rfl) (by decide) ?_
    have en : i = npN s := by omega
    subst en
    rw [hR 1 (by decide), psS_lo _ _ _ (by decide)]
    refine Ew.iload_n hx dX12_passNow_123 rfl ?_
    refine Ew.iadd hx dX12_passNow_124 ?_
    refine Ew.sipush hx dX12_passNow_125 k_sipush_5000 ?_
    refine Ew.callS (y' := mX12_held) hx dX12_passNow_128 ml_RX12_46 cf_X12_held cs_X12_held (ct_X12_held G _ _ _) rfl (by decide) (by decide) rfl (Nat.le_of_ble_eq_true rfl) ?_
    rintro _ V9 ⟨rfl, h9⟩; subst V9
    refine Ew.iast (i := 1) hx dX12_passNow_131 ag_20 rfl (rfl) (by decide) ?_
    have hQ := hR.put 1 (hld (s 1 + c) 5000)
    refine Ew.aload_n hx dX12_passNow_132 rfl ?_
    refine Ew.getR (533) hx dX12_passNow_133 fg_RX12_7 rfl rfl ?_
    refine Ew.iconst hx dX12_passNow_136 k_iconst_0 ?_
    refine Ew.dup2 hx dX12_passNow_137 rfl rfl ?_
    refine Ew.iald (i := 0) hx dX12_passNow_138 ag_20 rfl (rfl) (by decide) ?_
    rw [hQ 0 (by decide), upd_n _ _ (by decide), psS_lo _ _ _ (by decide)]
    refine Ew.iconst hx dX12_passNow_139 k_iconst_1 ?_
    refine Ew.iadd hx dX12_passNow_140 ?_
    refine Ew.iast (i := 0) hx dX12_passNow_141 ag_20 rfl (rfl) (by decide) ?_
    refine Ew.iload_n hx dX12_passNow_142 rfl ?_
    refine Ew.iret hx hq dX12_passNow_143 rfl ?_
    exact ⟨rfl, hQ.put 0 (s 0 + 1), fun q hq2 => by rw [mup_ne _ _ _ hq2, mup_ne _ _ _ hq2]; exact hF q hq2⟩
  | succ n ih =>
    intro i hi W hR hF
    refine Ew.iload_n hx dX12_passNow_4 rfl ?_
    refine Ew.aload_n hx dX12_passNow_5 rfl ?_
    refine Ew.getR (533) hx dX12_passNow_6 fg_RX12_7 rfl rfl ?_
    refine Ew.iconst hx dX12_passNow_9 k_iconst_3 ?_
    refine Ew.iald (i := 3) hx dX12_passNow_10 ag_20 rfl (rfl) (by decide) ?_
    have hnp := hW.np
    rw [hR 3 (by decide), psS_lo _ _ _ (by decide), hnp.1]
    refine Ew.icmp_ge_f hx (tgt := 112) dX12_passNow_11 rfl (nI_ge (by omega) (by omega)) ?_
    refine Ew.aload_n hx dX12_passNow_14 rfl ?_
    refine Ew.iload_n hx dX12_passNow_15 rfl ?_
    refine Ew.aload_n hx dX12_passNow_16 rfl ?_
    refine Ew.getR (533) hx dX12_passNow_17 fg_RX12_7 rfl rfl ?_
    refine Ew.iconst hx dX12_passNow_20 k_iconst_0 ?_
    refine Ew.iald (i := 0) hx dX12_passNow_21 ag_20 rfl (rfl) (by decide) ?_
    have ht := hW.t
    have hi12 : i < 12 := by omega
    rw [hR 0 (by decide), psS_lo _ _ _ (by decide), ht.1]
    refine Ew.callV2 (y' := mX12_comes) hx dX12_passNow_22 ml_RX12_56 cf_X12_comes cv_X12_comes (ct_X12_comes G W hR hi12 (tN s)) rfl oc_19 rfl (by decide) (by decide) rfl (Nat.le_of_ble_eq_true rfl) ?_
    rintro _ V9 ⟨rfl, h9⟩; subst V9
    rw [cms_ps]
    refine Ew.ifeq_b hx (tgt := 106) dX12_passNow_25 rfl (fun h25 => ?_) (fun h25 => ?_)
    · have hls : lsN s i = lsN s (i + 1) := (cntN_f (P := fun p => cms s p (tN s) ∧ ¬ opn s (rrN s p) (pf s p 3) (s 1)) (fun q => h25 q.1)).symm
      refine Ew.iinc hx dX12_passNow_106 rfl (k_iinc_1 _) (by decide) rfl ?_
      refine Ew.goto hx (tgt := 4) dX12_passNow_109 rfl ?_
      rw [nI_1, hls]
      refine Ew.drop 4 (ih (i + 1) (by omega) _ ?_ hF)
      rw [show psS s (i + 1) = _ from cif_f h25]
      exact hR
    · have hc : cms s i (tN s) := h25
      obtain ⟨r, a, b, er, hr, -⟩ := hW.pn (p := i) (by omega)
      have hr4 : r < 4 := by have := hW.nr.2; omega
      have err : rrN s i = r := by unfold rrN; rw [er, tn (by omega)]; rfl
      refine Ew.aload_n hx dX12_passNow_28 rfl ?_
      refine Ew.aload_n hx dX12_passNow_29 rfl ?_
      refine Ew.iload_n hx dX12_passNow_30 rfl ?_
      refine Ew.iconst hx dX12_passNow_31 k_iconst_0 ?_
      refine Ew.callV2 (y' := mX12_of) hx dX12_passNow_32 ml_RX12_53 cf_X12_of cv_X12_of (ct_X12_of G W hi12 (j := 0) (by decide)) rfl oc_19 rfl (by decide) (by decide) rfl (Nat.le_of_ble_eq_true rfl) ?_
      rintro _ V9 ⟨rfl, h9⟩; subst V9
      rw [hR _ (by omega), psS_hi s i _ (by omega), show s (49 + 12 * i + 0) = nI r from er]
      refine Ew.aload_n hx dX12_passNow_35 rfl ?_
      refine Ew.iload_n hx dX12_passNow_36 rfl ?_
      refine Ew.iconst hx dX12_passNow_37 k_iconst_3 ?_
      refine Ew.callV2 (y' := mX12_of) hx dX12_passNow_38 ml_RX12_53 cf_X12_of cv_X12_of (ct_X12_of G W hi12 (j := 3) (by decide)) rfl oc_19 rfl (by decide) (by decide) rfl (Nat.le_of_ble_eq_true rfl) ?_
      rintro _ V9 ⟨rfl, h9⟩; subst V9
      rw [hR _ (by omega), psS_hi s i _ (by omega), show s (49 + 12 * i + 3) = pf s i 3 from rfl]
      refine Ew.aload_n hx dX12_passNow_41 rfl ?_
      refine Ew.getR (533) hx dX12_passNow_42 fg_RX12_7 rfl rfl ?_
      refine Ew.iconst hx dX12_passNow_45 k_iconst_1 ?_
      refine Ew.iald (i := 1) hx dX12_passNow_46 ag_20 rfl (rfl) (by decide) ?_
      rw [hR 1 (by decide), psS_lo _ _ _ (by decide)]
      refine Ew.callV2 (y' := mX12_isOpen) hx dX12_passNow_47 ml_RX12_62 cf_X12_isOpen cv_X12_isOpen (ct_X12_isOpen G W hR hr4 _ _) rfl oc_19 rfl (by decide) (by decide) rfl (Nat.le_of_ble_eq_true rfl) ?_
      rintro _ V9 ⟨rfl, h9⟩; subst V9
      rw [opn_ps s i r hr4]
      have hRf : MR W (prow (psS s i) i (prw s i)) := (hR.row i).rcg (fun j _ => psS_hi s i _ (by omega))
      by_cases ho : opn s (rrN s i) (pf s i 3) (s 1)
      · have hls : nI (lsN s i) + 0 = nI (lsN s (i + 1)) := by
          unfold lsN
          rw [cntN_f (P := fun p => cms s p (tN s) ∧ ¬ opn s (rrN s p) (pf s p 3) (s 1)) (fun q => q.2 ho)]
          exact Int32.add_zero _
        rw [← err, b2i_t ho]
        refine Ew.istore hx dX12_passNow_50 (by decide) rfl ?_
        refine Ew.aload_n hx dX12_passNow_52 rfl ?_
        refine Ew.iload_n hx dX12_passNow_53 rfl ?_
        refine Ew.iload hx dX12_passNow_54 rfl ?_
        refine Ew.if_eq_f hx (tgt := 64) dX12_passNow_56 rfl (by decide) ?_
        refine Ew.bipush hx dX12_passNow_59 k_bipush_6 ?_
        refine Ew.goto hx (tgt := 66) dX12_passNow_61 rfl ?_
        refine Ew.aload_n hx dX12_passNow_66 rfl ?_
        refine Ew.iload_n hx dX12_passNow_67 rfl ?_
        refine Ew.iconst hx dX12_passNow_68 k_iconst_4 ?_
        refine Ew.callV2 (y' := mX12_of) hx dX12_passNow_69 ml_RX12_53 cf_X12_of cv_X12_of (ct_X12_of G W hi12 (j := 4) (by decide)) rfl oc_19 rfl (by decide) (by decide) rfl (Nat.le_of_ble_eq_true rfl) ?_
        rintro _ V9 ⟨rfl, h9⟩; subst V9
        rw [hRf.rat hi12 (j := 4) (by decide)]
        refine Ew.callV2 (y' := mX12_grow) hx dX12_passNow_72 ml_RX12_122 cf_X12_grow cv_X12_grow (ct_X12_grow G _ hi12 (j := 6) (by decide) _) rfl oc_19 rfl (by decide) (by decide) rfl (Nat.le_of_ble_eq_true rfl) ?_
        rintro _ V9 ⟨rfl, h9⟩; subst V9
        have hR1 := hRf.rput (j := 6) (by decide) (W 533 (49 + 12 * i + 6) + prw s i 4)
        rw [hRf.rat hi12 (j := 6) (by decide)] at hR1 ⊢
        refine Ew.aload_n hx dX12_passNow_75 rfl ?_
        refine Ew.iload_n hx dX12_passNow_76 rfl ?_
        refine Ew.iload hx dX12_passNow_77 rfl ?_
        refine Ew.if_eq_f hx (tgt := 87) dX12_passNow_79 rfl (by decide) ?_
        refine Ew.bipush hx dX12_passNow_82 k_bipush_9 ?_
        refine Ew.goto hx (tgt := 89) dX12_passNow_84 rfl ?_
        refine Ew.iconst hx dX12_passNow_89 k_iconst_1 ?_
        refine Ew.callV2 (y' := mX12_grow) hx dX12_passNow_90 ml_RX12_122 cf_X12_grow cv_X12_grow (ct_X12_grow G _ hi12 (j := 9) (by decide) _) rfl oc_19 rfl (by decide) (by decide) rfl (Nat.le_of_ble_eq_true rfl) ?_
        rintro _ V9 ⟨rfl, h9⟩; subst V9
        rw [(hR1.rat hi12 (j := 9) (by decide)).trans (upd_n _ _ (by decide))]
        have hR2 := (hR1.rput (j := 9) (by decide) (prw s i 9 + 1)).rcg (fun j _ => us_eq (prw s i) j)
        refine Ew.iload_n hx dX12_passNow_93 rfl ?_
        refine Ew.iload hx dX12_passNow_94 rfl ?_
        refine Ew.if_eq_f hx (tgt := 103) dX12_passNow_96 rfl (by decide) ?_
        refine Ew.iconst hx dX12_passNow_99 k_iconst_0 ?_
        refine Ew.goto hx (tgt := 104) dX12_passNow_100 rfl ?_
        refine Ew.iadd hx dX12_passNow_104 ?_
        rw [hls]
        refine Ew.istore_n hx dX12_passNow_105 (by decide) rfl ?_
        refine Ew.iinc hx dX12_passNow_106 rfl (k_iinc_1 _) (by decide) rfl ?_
        refine Ew.goto hx (tgt := 4) dX12_passNow_109 rfl ?_
        rw [nI_1]
        refine Ew.drop 4 (ih (i + 1) (by omega) _ ?_ (fun q hq2 => by rw [mup_ne _ _ _ hq2, mup_ne _ _ _ hq2]; exact hF q hq2))
        rw [show psS s (i + 1) = _ from cif_t hc, cif_t ho]
        exact hR2
      · have hls : nI (lsN s i) + 1 = nI (lsN s (i + 1)) := by
          unfold lsN
          rw [cntN_t (P := fun p => cms s p (tN s) ∧ ¬ opn s (rrN s p) (pf s p 3) (s 1)) ⟨hc, ho⟩, nI_succ]
        rw [← err, b2i_f ho]
        refine Ew.istore hx dX12_passNow_50 (by decide) rfl ?_
        refine Ew.aload_n hx dX12_passNow_52 rfl ?_
        refine Ew.iload_n hx dX12_passNow_53 rfl ?_
        refine Ew.iload hx dX12_passNow_54 rfl ?_
        refine Ew.if_eq_t hx (tgt := 64) dX12_passNow_56 rfl (rfl) ?_
        refine Ew.bipush hx dX12_passNow_64 k_bipush_7 ?_
        refine Ew.aload_n hx dX12_passNow_66 rfl ?_
        refine Ew.iload_n hx dX12_passNow_67 rfl ?_
        refine Ew.iconst hx dX12_passNow_68 k_iconst_4 ?_
        refine Ew.callV2 (y' := mX12_of) hx dX12_passNow_69 ml_RX12_53 cf_X12_of cv_X12_of (ct_X12_of G W hi12 (j := 4) (by decide)) rfl oc_19 rfl (by decide) (by decide) rfl (Nat.le_of_ble_eq_true rfl) ?_
        rintro _ V9 ⟨rfl, h9⟩; subst V9
        rw [hRf.rat hi12 (j := 4) (by decide)]
        refine Ew.callV2 (y' := mX12_grow) hx dX12_passNow_72 ml_RX12_122 cf_X12_grow cv_X12_grow (ct_X12_grow G _ hi12 (j := 7) (by decide) _) rfl oc_19 rfl (by decide) (by decide) rfl (Nat.le_of_ble_eq_true rfl) ?_
        rintro _ V9 ⟨rfl, h9⟩; subst V9
        have hR1 := hRf.rput (j := 7) (by decide) (W 533 (49 + 12 * i + 7) + prw s i 4)
        rw [hRf.rat hi12 (j := 7) (by decide)] at hR1 ⊢
        refine Ew.aload_n hx dX12_passNow_75 rfl ?_
        refine Ew.iload_n hx dX12_passNow_76 rfl ?_
        refine Ew.iload hx dX12_passNow_77 rfl ?_
        refine Ew.if_eq_t hx (tgt := 87) dX12_passNow_79 rfl (rfl) ?_
        refine Ew.bipush hx dX12_passNow_87 k_bipush_10 ?_
        refine Ew.iconst hx dX12_passNow_89 k_iconst_1 ?_
        refine Ew.callV2 (y' := mX12_grow) hx dX12_passNow_90 ml_RX12_122 cf_X12_grow cv_X12_grow (ct_X12_grow G _ hi12 (j := 10) (by decide) _) rfl oc_19 rfl (by decide) (by decide) rfl (Nat.le_of_ble_eq_true rfl) ?_
        rintro _ V9 ⟨rfl, h9⟩; subst V9
        rw [(hR1.rat hi12 (j := 10) (by decide)).trans (upd_n _ _ (by decide))]
        have hR2 := (hR1.rput (j := 10) (by decide) (prw s i 10 + 1)).rcg (fun j _ => lo_eq (prw s i) j)
        refine Ew.iload_n hx dX12_passNow_93 rfl ?_
        refine Ew.iload hx dX12_passNow_94 rfl ?_
        refine Ew.if_eq_t hx (tgt := 103) dX12_passNow_96 rfl (rfl) ?_
        refine Ew.iconst hx dX12_passNow_103 k_iconst_1 ?_
        refine Ew.iadd hx dX12_passNow_104 ?_
        rw [hls]
        refine Ew.istore_n hx dX12_passNow_105 (by decide) rfl ?_
        refine Ew.iinc hx dX12_passNow_106 rfl (k_iinc_1 _) (by decide) rfl ?_
        refine Ew.goto hx (tgt := 4) dX12_passNow_109 rfl ?_
        rw [nI_1]
        refine Ew.drop 4 (ih (i + 1) (by omega) _ ?_ (fun q hq2 => by rw [mup_ne _ _ _ hq2, mup_ne _ _ _ hq2]; exact hF q hq2))
        rw [show psS s (i + 1) = _ from cif_t hc, cif_f ho]
        exact hR2
set_option maxHeartbeats 4000000 in
set_option maxRecDepth 100000 in
theorem ct_X12_passNow (G : GT) (V : Mm) {s : Sv} {B : Int} (hM : MR V s) (hW : WF s B) (c : Int32) : Ct G mX12_passNow 2 [adr G 532, .int c] (V) (fun v V9 => v = some (.int (nI (lsN s (npN s)))) ∧ MR V9 (nxPass s c) ∧ ∀ q, q ≠ 533 → V9 q = V q) := by
  refine Ct.of cf_X12_passNow (List.forall_mem_cons.mpr ⟨rfl, List.forall_mem_cons.mpr ⟨rfl, fun _ h => absurd h List.not_mem_nil⟩⟩) (Nat.le_of_ble_eq_true rfl) (l0 := [some (adr G 532), some (.int c), none, none, none]) rfl (fun C hx hq => ?_)
  refine Ew.iconst hx dX12_passNow_0 k_iconst_0 ?_
  refine Ew.istore_n hx dX12_passNow_1 (by decide) rfl ?_
  refine Ew.iconst hx dX12_passNow_2 k_iconst_0 ?_
  refine Ew.istore_n hx dX12_passNow_3 (by decide) rfl ?_
  exact lp_X12_pass hM hW hx hq (npN s) 0 (by omega) V hM (fun _ _ => rfl)
