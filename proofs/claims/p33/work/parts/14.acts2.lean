theorem Ew.drop {G : GT} {C : CT} {V : Mm} {pc : Nat} {l : List (Option Value)} {st : List Value} (k : Nat) (h : Ew G C V pc (l.set k none) st) : Ew G C V pc l st := by
  intro H locs ls hP hS hL
  refine h H locs ls hP hS ⟨hL.1, hL.2.1, fun i v hv => ?_⟩
  by_cases hi : i = k
  · subst hi
    by_cases hl : i < l.length
    · rw [List.getElem?_set_self hl] at hv
      cases hv
    · rw [List.getElem?_eq_none (by rw [List.length_set]; omega)] at hv
      cases hv
  · rw [List.getElem?_set_ne (Ne.symm hi)] at hv
    exact hL.2.2 i v hv
theorem span_n {a b : Int32} (h : spanP a b) : a = nI (nt a) ∧ b = nI (nt b) ∧ nt a ≤ nt b ∧ nt b ≤ 181 := by
  obtain ⟨⟨h1, h2⟩, ⟨h3, h4⟩, -⟩ := h
  rw [ie, tl_0] at h1
  rw [ie, tl_181] at h2 h4
  rw [ie] at h3
  refine ⟨ofNI h1, ofNI (by omega), ?_, ?_⟩ <;> unfold nt <;> omega
theorem WF.pl {s : Sv} {B : Int} (hW : WF s B) {p : Nat} (hp : p < npN s) : pf s p 1 = nI (fiN s p) ∧ pf s p 2 = nI (laN s p) ∧ fiN s p ≤ laN s p ∧ laN s p ≤ 181 ∧ pf s p 0 = nI (rrN s p) ∧ rrN s p < nrN s ∧ laN s p ≤ fiN s p + 29 := by
  obtain ⟨r, a, b, e1, e2, e3, e4, e5, e6, e7⟩ := hW.pn hp
  have hr := hW.nr.2
  have h1 : fiN s p = a := by unfold fiN; rw [e3, tn (by omega)]; omega
  have h2 : laN s p = b := by unfold laN; rw [e4, tn (by omega)]; omega
  have h3 : rrN s p = r := by unfold rrN; rw [e1, tn (by omega)]; omega
  rw [h1, h2, h3]
  exact ⟨e3, e4, e5, e6, e1, e2, e7⟩
theorem ftc_t (s : Sv) (p : Nat) : tN s ≤ ftc s p ∧ fiN s p ≤ ftc s p ∧ (ftc s p = tN s ∨ ftc s p = fiN s p) := by
  unfold ftc
  split <;> omega
theorem dtc_cases {s : Sv} {B : Int} (hW : WF s B) {p : Nat} (hp : p < npN s) : (dtc s p = 0 ∧ (pf s p 11 = 1 ∨ laN s p < ftc s p)) ∨ (¬ dtc s p = 0 ∧ pf s p 11 = 0 ∧ ftc s p ≤ laN s p ∧ dtc s p = nI (laN s p - ftc s p + 1)) := by
  obtain ⟨e1, e2, e3, e4, -⟩ := hW.pl hp
  have ht := hW.t
  unfold dtc dtcI
  rcases hW.c01 hp with hc | hc
  · have ef : (if s 0 < pf s p 1 then pf s p 1 else s 0) = nI (ftc s p) := by
      unfold ftc
      rw [ht.1, e1]
      by_cases hq : fiN s p < tN s
      · rw [if_pos hq, if_neg (nI_nlt (by omega) (by omega))]
      · rw [if_neg hq]
        by_cases hq2 : tN s < fiN s p
        · rw [if_pos (nI_lt hq2 (by omega))]
        · rw [if_neg (nI_nlt (by omega) (by omega)), show tN s = fiN s p by omega]
    have hf := ftc_t s p
    rw [if_neg (by simp [hc]), ef, e2]
    by_cases hl : laN s p < ftc s p
    · rw [if_pos (nI_lt hl (by omega))]
      exact Or.inl ⟨rfl, Or.inr hl⟩
    · rw [if_neg (nI_nlt (by omega) (by omega)), pk_sub (by omega), nI_1]
      refine Or.inr ⟨fun q => ?_, hc, by omega, rfl⟩
      rw [iq, tn (by omega), tl_0] at q
      omega
  · rw [if_pos (by rw [hc]; decide)]
    exact Or.inl ⟨rfl, Or.inl hc⟩
theorem dtc_back {s : Sv} {B : Int} (hW : WF s B) {p : Nat} (hp : p < npN s) (h : ¬ dtc s p = 0) : pf s p 2 - dtc s p + 1 = nI (ftc s p) := by
  obtain ⟨e1, e2, e3, e4, -⟩ := hW.pl hp
  rcases dtc_cases hW hp with hc | hc
  · exact absurd hc.1 h
  · have hf := ftc_t s p
    have ht := hW.t
    rw [hc.2.2.2, e2, iq]
    rw [addT, subT, tn (by omega), tn (by omega), tn (by omega), tl_1] <;> (try rw [subT]) <;> (try rw [tn (by omega), tn (by omega)]) <;> (try rw [tl_1]) <;> omega
set_option maxHeartbeats 4000000 in
set_option maxRecDepth 100000 in
theorem ct_X7_sellPermit (G : GT) (V : Mm) {s : Sv} {B : Int} (hR : Rep V 2 s) (hW : WF s B) (x a b d : Int32) : Ct G mX7_sellPermit 3 [adr G 2, .int x, .int a, .int b, .int d] (V) (Pst V (cdBuy s x a b d) (s 3) (nxBuy s x a b d)) := by
  refine Ct.of cf_X7_sellPermit (List.forall_mem_cons.mpr ⟨rfl, List.forall_mem_cons.mpr ⟨rfl, List.forall_mem_cons.mpr ⟨rfl, List.forall_mem_cons.mpr ⟨rfl, List.forall_mem_cons.mpr ⟨rfl, fun _ h => absurd h List.not_mem_nil⟩⟩⟩⟩⟩) (Nat.le_of_ble_eq_true rfl) (l0 := [some (adr G 2), some (.int x), some (.int a), some (.int b), some (.int d)]) rfl (fun C hx hq => ?_)
  have hnr := hW.nr
  have hnp := hW.np
  have ht := hW.t
  refine Ew.aload_n hx dX7_sellPermit_0 rfl ?_
  refine Ew.iload_n hx dX7_sellPermit_1 rfl ?_
  refine Ew.callV2 (y' := mX7_hasRamp) hx dX7_sellPermit_2 ml_RX7_81 cf_X7_hasRamp cv_X7_hasRamp (ct_X7_hasRamp G V _ hR) rfl oc_2 rfl (by decide) (by decide) rfl (Nat.le_of_ble_eq_true rfl) ?_
  rintro _ V9 ⟨rfl, h9⟩; subst V9
  refine Ew.ifeq_b hx (tgt := 28) dX7_sellPermit_5 rfl (fun h5 => ?_) (fun h5 => ?_)
  · have ec : cdBuy s x a b d = -100001 := cif_f (fun q => h5 q.1)
    refine Ew.ldc hx dX7_sellPermit_28 kn_RX7_63 ?_
    refine Ew.iret hx hq dX7_sellPermit_30 rfl ?_
    exact Or.inl ⟨by rw [ec]; decide, by rw [ec], rfl⟩
  · refine Ew.iload_n hx dX7_sellPermit_8 rfl ?_
    refine Ew.iload_n hx dX7_sellPermit_9 rfl ?_
    refine Ew.callSN (y' := mX11_isPermitSpan) hx dX7_sellPermit_10 (host := RX11) (List.mem_of_getElem? (i := 8) rfl) cf_X11_isPermitSpan cs_X11_isPermitSpan (ct_X11_isPermitSpan G _ _ _) rfl (by decide) (by decide) rfl (Nat.le_of_ble_eq_true rfl) ?_
    rintro _ V9 ⟨rfl, h9⟩; subst V9
    refine Ew.ifeq_b hx (tgt := 28) dX7_sellPermit_13 rfl (fun h13 => ?_) (fun h13 => ?_)
    · have ec : cdBuy s x a b d = -100001 := cif_f (fun q => h13 q.2.1)
      refine Ew.ldc hx dX7_sellPermit_28 kn_RX7_63 ?_
      refine Ew.iret hx hq dX7_sellPermit_30 rfl ?_
      exact Or.inl ⟨by rw [ec]; decide, by rw [ec], rfl⟩
    · refine Ew.iload hx dX7_sellPermit_16 rfl ?_
      refine Ew.iconst hx dX7_sellPermit_18 k_iconst_0 ?_
      refine Ew.sipush hx dX7_sellPermit_19 k_sipush_300 ?_
      refine Ew.callSN (y' := mX11_isWithin) hx dX7_sellPermit_22 (host := RX11) (List.mem_of_getElem? (i := 6) rfl) cf_X11_isWithin cs_X11_isWithin (ct_X11_isWithin G _ _ _ _) rfl (by decide) (by decide) rfl (Nat.le_of_ble_eq_true rfl) ?_
      rintro _ V9 ⟨rfl, h9⟩; subst V9
      refine Ew.ifne_b hx (tgt := 31) dX7_sellPermit_25 rfl (fun h25 => ?_) (fun h25 => ?_)
      · have ok := cif_t (a := cif (s 0 ≤ a ∧ fitP s (nt x) (nt a) (nt b) d) (cif (s 3 = 12) (-100003) 0) (-100002)) (b := (-100001 : Int32)) (show (0 ≤ x ∧ x < s 2) ∧ spanP a b ∧ (0 ≤ d ∧ d ≤ 300) from ⟨h5, h13, h25⟩)
        have ok : cdBuy s x a b d = _ := ok
        obtain ⟨r, hxr, hr⟩ := hW.rix h5
        have hxn : nt x = r := by rw [hxr, nt_nI (by omega)]
        obtain ⟨ea, eb, hab, hb⟩ := span_n h13
        rw [hxn] at ok
        refine Ew.iload_n hx dX7_sellPermit_31 rfl ?_
        refine Ew.aload_n hx dX7_sellPermit_32 rfl ?_
        refine Ew.getR (3) hx dX7_sellPermit_33 fg_RX7_12 rfl rfl ?_
        refine Ew.getI hx dX7_sellPermit_36 fg_RX7_89 rfl ?_
        rw [hR.today]
        refine Ew.icmp_lt hx (tgt := 54) dX7_sellPermit_39 rfl (fun h39 => ?_) (fun h39 => ?_)
        · have ec : cdBuy s x a b d = -100002 := ok.trans (cif_f (fun q => by have q1 := q.1; rw [ie] at q1; rw [il] at h39; omega))
          refine Ew.ldc hx dX7_sellPermit_54 kn_RX7_96 ?_
          refine Ew.iret hx hq dX7_sellPermit_56 rfl ?_
          exact Or.inl ⟨by rw [ec]; decide, by rw [ec], rfl⟩
        · have hta : tN s ≤ nt a := by
            rw [il, ht.1, ea, tn (by omega), tn (by omega)] at h39
            omega
          have hta2 : s 0 ≤ a := by rw [ie]; rw [il] at h39; omega
          refine Ew.aload_n hx dX7_sellPermit_42 rfl ?_
          refine Ew.iload_n hx dX7_sellPermit_43 rfl ?_
          refine Ew.iload_n hx dX7_sellPermit_44 rfl ?_
          refine Ew.iload_n hx dX7_sellPermit_45 rfl ?_
          refine Ew.iload hx dX7_sellPermit_46 rfl ?_
          rw [hxr, ea, eb]
          refine Ew.callV2 (y' := mX7_fits) hx dX7_sellPermit_48 ml_RX7_92 cf_X7_fits cv_X7_fits (ct_X7_fits G V hR hW hr hta hab hb d) rfl oc_2 rfl (by decide) (by decide) rfl (Nat.le_of_ble_eq_true rfl) ?_
          rintro _ V9 ⟨rfl, h9⟩; subst V9
          rw [← ea, ← eb, ← hxr]
          refine Ew.ifne_b hx (tgt := 57) dX7_sellPermit_51 rfl (fun h51 => ?_) (fun h51 => ?_)
          · have ok2 := ok.trans (cif_t ⟨hta2, h51⟩)
            refine Ew.aload_n hx dX7_sellPermit_57 rfl ?_
            refine Ew.getI hx dX7_sellPermit_58 fg_RX7_53 rfl ?_
            refine Ew.bipush hx dX7_sellPermit_61 k_bipush_12 ?_
            rw [hR.nps, hnp.1]
            refine Ew.icmp_lt hx (tgt := 69) dX7_sellPermit_63 rfl (fun h63 => ?_) (fun h63 => ?_)
            · have h63 : npN s < 12 := by
                rw [il, tn (by omega), show (12 : Int32).toInt = 12 from rfl] at h63
                omega
              have ec : cdBuy s x a b d = 0 := ok2.trans (cif_f (fun q => by rw [hnp.1, iq, tn (by omega), show (12 : Int32).toInt = 12 from rfl] at q; omega))
              refine Ew.aload_n hx dX7_sellPermit_69 rfl ?_
              refine Ew.getR (9) hx dX7_sellPermit_70 fg_RX7_33 rfl rfl ?_
              refine Ew.aload_n hx dX7_sellPermit_73 rfl ?_
              refine Ew.getI hx dX7_sellPermit_74 fg_RX7_53 rfl ?_
              rw [hR.nps, hnp.1]
              refine Ew.aldq (14 + npN s) hx dX7_sellPermit_77 rg_8 rfl (rfl) (by omega) (by omega) ?_
              refine Ew.iload_n hx dX7_sellPermit_78 rfl ?_
              refine Ew.aload_n hx dX7_sellPermit_79 rfl ?_
              refine Ew.getR (8) hx dX7_sellPermit_80 fg_RX7_27 rfl rfl ?_
              refine Ew.iload_n hx dX7_sellPermit_83 rfl ?_
              refine Ew.aldq (10 + r) hx dX7_sellPermit_84 rg_7 rfl (hxr) (by omega) (by omega) ?_
              refine Ew.getI hx dX7_sellPermit_85 fg_RX7_78 (kd_rm (by omega)) ?_
              refine Ew.iload_n hx dX7_sellPermit_88 rfl ?_
              refine Ew.iload_n hx dX7_sellPermit_89 rfl ?_
              refine Ew.iload hx dX7_sellPermit_90 rfl ?_
              rw [hR.rm hr (by omega) (by decide)]
              refine Ew.callV2 (y' := mX4_begin) hx dX7_sellPermit_92 ml_RX7_97 cf_X4_begin cv_X4_begin (ct_X4_begin G V (14 + npN s) x _ a b d (kd_pm (by omega))) (kd_pm (by omega)) oc_10 rfl (by decide) (by decide) rfl (Nat.le_of_ble_eq_true rfl) ?_
              rintro _ V9 ⟨rfl, h9⟩; subst V9
              refine Ew.aload_n hx dX7_sellPermit_95 rfl ?_
              refine Ew.dup hx dX7_sellPermit_96 rfl ?_
              refine Ew.getI hx dX7_sellPermit_97 fg_RX7_53 rfl ?_
              refine Ew.iconst hx dX7_sellPermit_100 k_iconst_1 ?_
              refine Ew.iadd hx dX7_sellPermit_101 ?_
              refine Ew.putI hx dX7_sellPermit_102 pg_RX7_53 rfl ?_
              refine Ew.aload_n hx dX7_sellPermit_105 rfl ?_
              refine Ew.getI hx dX7_sellPermit_106 fg_RX7_53 rfl ?_
              refine Ew.iconst hx dX7_sellPermit_109 k_iconst_1 ?_
              rw [mup_self, rs_ne _ _ (by omega), hR.nps, hnp.1]
              refine Ew.isub hx dX7_sellPermit_110 ?_
              rw [nI_1, nI_pred]
              refine Ew.iret hx hq dX7_sellPermit_111 rfl ?_
              refine Or.inr ⟨ec, by rw [hnp.1], rep_buy hR hW h63 x _ a b d _ (by rw [hxn]) (by rw [hnp.1, nI_1]), ?_⟩
              exact (Fr.rfl'.rs (by omega)).mup (by omega)
            · have h63 : npN s = 12 := by
                rw [il, tn (by omega), show (12 : Int32).toInt = 12 from rfl] at h63
                omega
              have ec : cdBuy s x a b d = -100003 := ok2.trans (cif_t (by rw [hnp.1, h63]; rfl))
              refine Ew.ldc hx dX7_sellPermit_66 kn_RX7_71 ?_
              refine Ew.iret hx hq dX7_sellPermit_68 rfl ?_
              exact Or.inl ⟨by rw [ec]; decide, by rw [ec], rfl⟩
          · have ec : cdBuy s x a b d = -100002 := ok.trans (cif_f (fun q => h51 q.2))
            refine Ew.ldc hx dX7_sellPermit_54 kn_RX7_96 ?_
            refine Ew.iret hx hq dX7_sellPermit_56 rfl ?_
            exact Or.inl ⟨by rw [ec]; decide, by rw [ec], rfl⟩
      · have ec : cdBuy s x a b d = -100001 := cif_f (fun q => h25 q.2.2)
        refine Ew.ldc hx dX7_sellPermit_28 kn_RX7_63 ?_
        refine Ew.iret hx hq dX7_sellPermit_30 rfl ?_
        exact Or.inl ⟨by rw [ec]; decide, by rw [ec], rfl⟩
set_option maxHeartbeats 4000000 in
set_option maxRecDepth 100000 in
theorem ct_X7_movePermit (G : GT) (V : Mm) {s : Sv} {B : Int} (hR : Rep V 2 s) (hW : WF s B) (x y : Int32) : Ct G mX7_movePermit 3 [adr G 2, .int x, .int y] (V) (Pst V (cdMove s x y) (mvD s x y) (nxMove s x y)) := by
  refine Ct.of cf_X7_movePermit (List.forall_mem_cons.mpr ⟨rfl, List.forall_mem_cons.mpr ⟨rfl, List.forall_mem_cons.mpr ⟨rfl, fun _ h => absurd h List.not_mem_nil⟩⟩⟩) (Nat.le_of_ble_eq_true rfl) (l0 := [some (adr G 2), some (.int x), some (.int y), none, none]) rfl (fun C hx hq => ?_)
  have hnr := hW.nr
  have hnp := hW.np
  have ht := hW.t
  refine Ew.aload_n hx dX7_movePermit_0 rfl ?_
  refine Ew.iload_n hx dX7_movePermit_1 rfl ?_
  refine Ew.callV2 (y' := mX7_hasPermit) hx dX7_movePermit_2 ml_RX7_101 cf_X7_hasPermit cv_X7_hasPermit (ct_X7_hasPermit G V _ hR) rfl oc_2 rfl (by decide) (by decide) rfl (Nat.le_of_ble_eq_true rfl) ?_
  rintro _ V9 ⟨rfl, h9⟩; subst V9
  refine Ew.ifeq_b hx (tgt := 16) dX7_movePermit_5 rfl (fun h5 => ?_) (fun h5 => ?_)
  · have ec : cdMove s x y = -100001 := cif_f (fun q => h5 q.1)
    refine Ew.ldc hx dX7_movePermit_16 kn_RX7_63 ?_
    refine Ew.iret hx hq dX7_movePermit_18 rfl ?_
    exact Or.inl ⟨by rw [ec]; decide, by rw [ec], rfl⟩
  · refine Ew.aload_n hx dX7_movePermit_8 rfl ?_
    refine Ew.iload_n hx dX7_movePermit_9 rfl ?_
    refine Ew.callV2 (y' := mX7_hasRamp) hx dX7_movePermit_10 ml_RX7_81 cf_X7_hasRamp cv_X7_hasRamp (ct_X7_hasRamp G V _ hR) rfl oc_2 rfl (by decide) (by decide) rfl (Nat.le_of_ble_eq_true rfl) ?_
    rintro _ V9 ⟨rfl, h9⟩; subst V9
    refine Ew.ifne_b hx (tgt := 19) dX7_movePermit_13 rfl (fun h13 => ?_) (fun h13 => ?_)
    · have ok := cif_t (a := cif (¬ dtc s (nt x) = 0 ∧ ¬ pf s (nt x) 0 = y ∧ fitP s (nt y) (ftc s (nt x)) (laN s (nt x)) (pf s (nt x) 3)) 0 (-100002)) (b := (-100001 : Int32)) (show (0 ≤ x ∧ x < s 3) ∧ (0 ≤ y ∧ y < s 2) from ⟨h5, h13⟩)
      have ok : cdMove s x y = _ := ok
      obtain ⟨r, hyr, hr⟩ := hW.rix h13
      obtain ⟨p, hxp, hp⟩ := hW.pix h5
      have hyn : nt y = r := by rw [hyr, nt_nI (by omega)]
      have hxn : nt x = p := by rw [hxp, nt_nI (by omega)]
      rw [hxn, hyn] at ok
      obtain ⟨e1, e2, e3, e4, -⟩ := hW.pl hp
      refine Ew.aload_n hx dX7_movePermit_19 rfl ?_
      refine Ew.getR (9) hx dX7_movePermit_20 fg_RX7_33 rfl rfl ?_
      refine Ew.iload_n hx dX7_movePermit_23 rfl ?_
      refine Ew.aldq (14 + p) hx dX7_movePermit_24 rg_8 rfl (hxp) (by omega) (by omega) ?_
      refine Ew.astore_n hx dX7_movePermit_25 (by decide) rfl ?_
      refine Ew.aload_n hx dX7_movePermit_26 rfl ?_
      refine Ew.aload_n hx dX7_movePermit_27 rfl ?_
      refine Ew.getR (3) hx dX7_movePermit_28 fg_RX7_12 rfl rfl ?_
      refine Ew.getI hx dX7_movePermit_31 fg_RX7_89 rfl ?_
      rw [hR.today]
      refine Ew.callV2 (y' := mX4_daysToCome) hx dX7_movePermit_34 ml_RX7_104 cf_X4_daysToCome cv_X4_daysToCome (ct_X4_daysToCome G V (14 + p) _ (kd_pm (by omega))) (kd_pm (by omega)) oc_10 rfl (by decide) (by decide) rfl (Nat.le_of_ble_eq_true rfl) ?_
      rintro _ V9 ⟨rfl, h9⟩; subst V9
      rw [hR.pm hp (by omega) (by decide), hR.pm hp (by omega) (by decide), hR.pm hp (by omega) (by decide)]
      have hd0 : dtcI (pf s p 1) (pf s p 2) (pf s p 11) (s 0) = dtc s p := rfl
      rw [hd0]
      refine Ew.istore hx dX7_movePermit_37 (by decide) rfl ?_
      refine Ew.iload hx dX7_movePermit_39 rfl ?_
      refine Ew.if_eq hx (tgt := 77) dX7_movePermit_41 rfl (fun h41 => ?_) (fun h41 => ?_)
      · have ec : cdMove s x y = -100002 := ok.trans (cif_f (fun q => q.1 h41))
        refine Ew.ldc hx dX7_movePermit_77 kn_RX7_96 ?_
        refine Ew.iret hx hq dX7_movePermit_79 rfl ?_
        exact Or.inl ⟨by rw [ec]; decide, by rw [ec], rfl⟩
      · refine Ew.aload_n hx dX7_movePermit_44 rfl ?_
        refine Ew.getI hx dX7_movePermit_45 fg_RX7_108 (kd_pm (by omega)) ?_
        refine Ew.iload_n hx dX7_movePermit_48 rfl ?_
        rw [hR.pm hp (by omega) (by decide)]
        refine Ew.icmp_eq hx (tgt := 77) dX7_movePermit_49 rfl (fun h49 => ?_) (fun h49 => ?_)
        · have ec : cdMove s x y = -100002 := ok.trans (cif_f (fun q => q.2.1 h49))
          refine Ew.ldc hx dX7_movePermit_77 kn_RX7_96 ?_
          refine Ew.iret hx hq dX7_movePermit_79 rfl ?_
          exact Or.inl ⟨by rw [ec]; decide, by rw [ec], rfl⟩
        · refine Ew.aload_n hx dX7_movePermit_52 rfl ?_
          refine Ew.iload_n hx dX7_movePermit_53 rfl ?_
          refine Ew.aload_n hx dX7_movePermit_54 rfl ?_
          refine Ew.getI hx dX7_movePermit_55 fg_RX7_111 (kd_pm (by omega)) ?_
          refine Ew.iload hx dX7_movePermit_58 rfl ?_
          refine Ew.isub hx dX7_movePermit_60 ?_
          refine Ew.iconst hx dX7_movePermit_61 k_iconst_1 ?_
          refine Ew.iadd hx dX7_movePermit_62 ?_
          refine Ew.aload_n hx dX7_movePermit_63 rfl ?_
          refine Ew.getI hx dX7_movePermit_64 fg_RX7_111 (kd_pm (by omega)) ?_
          refine Ew.aload_n hx dX7_movePermit_67 rfl ?_
          refine Ew.getI hx dX7_movePermit_68 fg_RX7_114 (kd_pm (by omega)) ?_
          rw [hR.pm hp (by omega) (by decide), hR.pm hp (by omega) (by decide), dtc_back hW hp h41, e2, hyr]
          refine Ew.callV2 (y' := mX7_fits) hx dX7_movePermit_71 ml_RX7_92 cf_X7_fits cv_X7_fits (ct_X7_fits G V hR hW hr (ftc_t s p).1 (show ftc s p ≤ laN s p by rcases dtc_cases hW hp with q | q; exact absurd q.1 h41; exact q.2.2.1) e4 (pf s p 3)) rfl oc_2 rfl (by decide) (by decide) rfl (Nat.le_of_ble_eq_true rfl) ?_
          rintro _ V9 ⟨rfl, h9⟩; subst V9
          rw [← hyr]
          refine Ew.ifne_b hx (tgt := 80) dX7_movePermit_74 rfl (fun h74 => ?_) (fun h74 => ?_)
          · have ec : cdMove s x y = 0 := ok.trans (cif_t ⟨h41, h49, h74⟩)
            refine Ew.aload_n hx dX7_movePermit_80 rfl ?_
            refine Ew.iload_n hx dX7_movePermit_81 rfl ?_
            refine Ew.aload_n hx dX7_movePermit_82 rfl ?_
            refine Ew.getR (8) hx dX7_movePermit_83 fg_RX7_27 rfl rfl ?_
            refine Ew.iload_n hx dX7_movePermit_86 rfl ?_
            refine Ew.aldq (10 + r) hx dX7_movePermit_87 rg_7 rfl (hyr) (by omega) (by omega) ?_
            refine Ew.getI hx dX7_movePermit_88 fg_RX7_78 (kd_rm (by omega)) ?_
            refine Ew.iload hx dX7_movePermit_91 rfl ?_
            rw [hR.rm hr (by omega) (by decide)]
            refine Ew.callV2 (y' := mX4_moveTo) hx dX7_movePermit_93 ml_RX7_117 cf_X4_moveTo cv_X4_moveTo (ct_X4_moveTo G V (14 + p) y _ _ (kd_pm (by omega))) (kd_pm (by omega)) oc_10 rfl (by decide) (by decide) rfl (Nat.le_of_ble_eq_true rfl) ?_
            rintro _ V9 ⟨rfl, h9⟩; subst V9
            refine Ew.iret hx hq dX7_movePermit_96 rfl ?_
            rw [hR.pm hp (by omega) (by decide)]
            have ed : mvD s x y = (rf s r 2 - pf s p 4) * dtc s p := by unfold mvD; rw [hxn, hyn]
            refine Or.inr ⟨ec, by rw [ed], ?_, Fr.rfl'.rs (by omega)⟩
            unfold nxMove
            rw [ed, hxn, hyn]
            exact hR.prow (by omega) (mvF_c (hR.row hW hp))
          · have ec : cdMove s x y = -100002 := ok.trans (cif_f (fun q => h74 q.2.2))
            refine Ew.ldc hx dX7_movePermit_77 kn_RX7_96 ?_
            refine Ew.iret hx hq dX7_movePermit_79 rfl ?_
            exact Or.inl ⟨by rw [ec]; decide, by rw [ec], rfl⟩
    · have ec : cdMove s x y = -100001 := cif_f (fun q => h13 q.2)
      refine Ew.ldc hx dX7_movePermit_16 kn_RX7_63 ?_
      refine Ew.iret hx hq dX7_movePermit_18 rfl ?_
      exact Or.inl ⟨by rw [ec]; decide, by rw [ec], rfl⟩
set_option maxHeartbeats 4000000 in
set_option maxRecDepth 100000 in
theorem ct_X7_cancelPermit (G : GT) (V : Mm) {s : Sv} {B : Int} (hR : Rep V 2 s) (hW : WF s B) (x : Int32) : Ct G mX7_cancelPermit 3 [adr G 2, .int x] (V) (Pst V (cdCancel s x) (anCancel s x) (nxCancel s x)) := by
  refine Ct.of cf_X7_cancelPermit (List.forall_mem_cons.mpr ⟨rfl, List.forall_mem_cons.mpr ⟨rfl, fun _ h => absurd h List.not_mem_nil⟩⟩) (Nat.le_of_ble_eq_true rfl) (l0 := [some (adr G 2), some (.int x), none, none, none]) rfl (fun C hx hq => ?_)
  have hnr := hW.nr
  have hnp := hW.np
  have ht := hW.t
  refine Ew.aload_n hx dX7_cancelPermit_0 rfl ?_
  refine Ew.iload_n hx dX7_cancelPermit_1 rfl ?_
  refine Ew.callV2 (y' := mX7_hasPermit) hx dX7_cancelPermit_2 ml_RX7_101 cf_X7_hasPermit cv_X7_hasPermit (ct_X7_hasPermit G V _ hR) rfl oc_2 rfl (by decide) (by decide) rfl (Nat.le_of_ble_eq_true rfl) ?_
  rintro _ V9 ⟨rfl, h9⟩; subst V9
  refine Ew.ifne_b hx (tgt := 11) dX7_cancelPermit_5 rfl (fun h5 => ?_) (fun h5 => ?_)
  · have ok : cdCancel s x = _ := cif_t h5
    obtain ⟨p, hxp, hp⟩ := hW.pix h5
    have hxn : nt x = p := by rw [hxp, nt_nI (by omega)]
    rw [hxn] at ok
    refine Ew.aload_n hx dX7_cancelPermit_11 rfl ?_
    refine Ew.getR (9) hx dX7_cancelPermit_12 fg_RX7_33 rfl rfl ?_
    refine Ew.iload_n hx dX7_cancelPermit_15 rfl ?_
    refine Ew.aldq (14 + p) hx dX7_cancelPermit_16 rg_8 rfl (hxp) (by omega) (by omega) ?_
    refine Ew.astore_n hx dX7_cancelPermit_17 (by decide) rfl ?_
    refine Ew.aload_n hx dX7_cancelPermit_18 rfl ?_
    refine Ew.aload_n hx dX7_cancelPermit_19 rfl ?_
    refine Ew.getR (3) hx dX7_cancelPermit_20 fg_RX7_12 rfl rfl ?_
    refine Ew.getI hx dX7_cancelPermit_23 fg_RX7_89 rfl ?_
    rw [hR.today]
    refine Ew.callV2 (y' := mX4_daysToCome) hx dX7_cancelPermit_26 ml_RX7_104 cf_X4_daysToCome cv_X4_daysToCome (ct_X4_daysToCome G V (14 + p) _ (kd_pm (by omega))) (kd_pm (by omega)) oc_10 rfl (by decide) (by decide) rfl (Nat.le_of_ble_eq_true rfl) ?_
    rintro _ V9 ⟨rfl, h9⟩; subst V9
    rw [hR.pm hp (by omega) (by decide), hR.pm hp (by omega) (by decide), hR.pm hp (by omega) (by decide)]
    have hd0 : dtcI (pf s p 1) (pf s p 2) (pf s p 11) (s 0) = dtc s p := rfl
    rw [hd0]
    refine Ew.istore_n hx dX7_cancelPermit_29 (by decide) rfl ?_
    refine Ew.iload_n hx dX7_cancelPermit_30 rfl ?_
    refine Ew.if_ne hx (tgt := 37) dX7_cancelPermit_31 rfl (fun h31 => ?_) (fun h31 => ?_)
    · have ec : cdCancel s x = 0 := ok.trans (cif_f h31)
      refine Ew.aload_n hx dX7_cancelPermit_37 rfl ?_
      refine Ew.aload_n hx dX7_cancelPermit_38 rfl ?_
      refine Ew.callV2 (y' := mX7_closedDays) hx dX7_cancelPermit_39 ml_RX7_121 cf_X7_closedDays cv_X7_closedDays (ct_X7_closedDays G V hR hW hp) rfl oc_2 rfl (by decide) (by decide) rfl (Nat.le_of_ble_eq_true rfl) ?_
      rintro _ V9 ⟨rfl, h9⟩; subst V9
      refine Ew.istore hx dX7_cancelPermit_42 (by decide) rfl ?_
      refine Ew.aload_n hx dX7_cancelPermit_44 rfl ?_
      refine Ew.iload_n hx dX7_cancelPermit_45 rfl ?_
      refine Ew.iload hx dX7_cancelPermit_46 rfl ?_
      refine Ew.isub hx dX7_cancelPermit_48 ?_
      refine Ew.iload hx dX7_cancelPermit_49 rfl ?_
      refine Ew.callV2 (y' := mX4_cancelDays) hx dX7_cancelPermit_51 ml_RX7_125 cf_X4_cancelDays cv_X4_cancelDays (ct_X4_cancelDays G V (14 + p) _ _ (kd_pm (by omega))) (kd_pm (by omega)) oc_10 rfl (by decide) (by decide) rfl (Nat.le_of_ble_eq_true rfl) ?_
      rintro _ V9 ⟨rfl, h9⟩; subst V9
      refine Ew.iret hx hq dX7_cancelPermit_54 rfl ?_
      have ed : clI s x = nI (clN s p (laN s p + 1)) := by unfold clI; rw [hxn]
      refine Or.inr ⟨ec, ?_, ?_, Fr.rfl'.rs (by omega)⟩
      · unfold anCancel
        rw [ed, hxn, cnO_c (hR.row hW hp)]
      · unfold nxCancel
        rw [ed, hxn]
        exact hR.prow (by omega) (cnF_c (hR.row hW hp))
    · have ec : cdCancel s x = -100002 := ok.trans (cif_t h31)
      refine Ew.ldc hx dX7_cancelPermit_34 kn_RX7_96 ?_
      refine Ew.iret hx hq dX7_cancelPermit_36 rfl ?_
      exact Or.inl ⟨by rw [ec]; decide, by rw [ec], rfl⟩
  · have ec : cdCancel s x = -100001 := cif_f h5
    refine Ew.ldc hx dX7_cancelPermit_8 kn_RX7_63 ?_
    refine Ew.iret hx hq dX7_cancelPermit_10 rfl ?_
    exact Or.inl ⟨by rw [ec]; decide, by rw [ec], rfl⟩
set_option maxHeartbeats 4000000 in
set_option maxRecDepth 100000 in
theorem ct_X7_refundPermit (G : GT) (V : Mm) {s : Sv} {B : Int} (hR : Rep V 2 s) (hW : WF s B) (x : Int32) : Ct G mX7_refundPermit 1 [adr G 2, .int x] (V) (Pst V (cdRefund s x) (pf s (nt x) 7) (nxRefund s x)) := by
  refine Ct.of cf_X7_refundPermit (List.forall_mem_cons.mpr ⟨rfl, List.forall_mem_cons.mpr ⟨rfl, fun _ h => absurd h List.not_mem_nil⟩⟩) (Nat.le_of_ble_eq_true rfl) (l0 := [some (adr G 2), some (.int x)]) rfl (fun C hx hq => ?_)
  have hnr := hW.nr
  have hnp := hW.np
  refine Ew.aload_n hx dX7_refundPermit_0 rfl ?_
  refine Ew.iload_n hx dX7_refundPermit_1 rfl ?_
  refine Ew.callV2 (y' := mX7_hasPermit) hx dX7_refundPermit_2 ml_RX7_101 cf_X7_hasPermit cv_X7_hasPermit (ct_X7_hasPermit G V _ hR) rfl oc_2 rfl (by decide) (by decide) rfl (Nat.le_of_ble_eq_true rfl) ?_
  rintro _ V9 ⟨rfl, h9⟩; subst V9
  refine Ew.ifne_b hx (tgt := 11) dX7_refundPermit_5 rfl (fun h5 => ?_) (fun h5 => ?_)
  · have ok : cdRefund s x = _ := cif_t h5
    obtain ⟨p, hxp, hp⟩ := hW.pix h5
    have hxn : nt x = p := by rw [hxp, nt_nI (by omega)]
    rw [hxn] at ok
    refine Ew.aload_n hx dX7_refundPermit_11 rfl ?_
    refine Ew.getR (9) hx dX7_refundPermit_12 fg_RX7_33 rfl rfl ?_
    refine Ew.iload_n hx dX7_refundPermit_15 rfl ?_
    refine Ew.aldq (14 + p) hx dX7_refundPermit_16 rg_8 rfl (hxp) (by omega) (by omega) ?_
    refine Ew.getI hx dX7_refundPermit_17 fg_RX7_129 (kd_pm (by omega)) ?_
    rw [hR.pm hp (by omega) (by decide)]
    refine Ew.if_ne hx (tgt := 28) dX7_refundPermit_20 rfl (fun h20 => ?_) (fun h20 => ?_)
    · have ec : cdRefund s x = 0 := ok.trans (cif_f h20)
      refine Ew.aload_n hx dX7_refundPermit_28 rfl ?_
      refine Ew.getR (9) hx dX7_refundPermit_29 fg_RX7_33 rfl rfl ?_
      refine Ew.iload_n hx dX7_refundPermit_32 rfl ?_
      refine Ew.aldq (14 + p) hx dX7_refundPermit_33 rg_8 rfl (hxp) (by omega) (by omega) ?_
      refine Ew.callV2 (y' := mX4_refundAll) hx dX7_refundPermit_34 ml_RX7_132 cf_X4_refundAll cv_X4_refundAll (ct_X4_refundAll G V (14 + p) (kd_pm (by omega))) (kd_pm (by omega)) oc_10 rfl (by decide) (by decide) rfl (Nat.le_of_ble_eq_true rfl) ?_
      rintro _ V9 ⟨rfl, h9⟩; subst V9
      refine Ew.iret hx hq dX7_refundPermit_37 rfl ?_
      first
        | exact Or.inl ⟨by rw [ec]; decide, by rw [ec], rfl⟩
        | (refine Or.inr ⟨ec, ?_, ?_, Fr.rfl'.rs (by omega)⟩
           · rw [hxn, hR.pm hp (by omega) (by decide)]
           · unfold nxRefund
             rw [hxn]
             exact hR.prow (by omega) (rfF_c (hR.row hW hp)))
    · have ec : cdRefund s x = -100002 := ok.trans (cif_t h20)
      refine Ew.ldc hx dX7_refundPermit_23 kn_RX7_96 ?_
      refine Ew.goto hx (tgt := 37) dX7_refundPermit_25 rfl ?_
      refine Ew.iret hx hq dX7_refundPermit_37 rfl ?_
      first
        | exact Or.inl ⟨by rw [ec]; decide, by rw [ec], rfl⟩
        | (refine Or.inr ⟨ec, ?_, ?_, Fr.rfl'.rs (by omega)⟩
           · rw [hxn, hR.pm hp (by omega) (by decide)]
           · unfold nxRefund
             rw [hxn]
             exact hR.prow (by omega) (rfF_c (hR.row hW hp)))
  · have ec : cdRefund s x = -100001 := cif_f h5
    refine Ew.ldc hx dX7_refundPermit_8 kn_RX7_63 ?_
    refine Ew.iret hx hq dX7_refundPermit_10 rfl ?_
    exact Or.inl ⟨by rw [ec]; decide, by rw [ec], rfl⟩
set_option maxHeartbeats 4000000 in
set_option maxRecDepth 100000 in
theorem ct_X7_hasRampV (G : GT) (V : Mm) (x : Int32) : Ct G mX7_hasRamp 0 [adr G 2, .int x] (V) (Ri (b2i (0 ≤ x ∧ x < V 2 4)) V) := by
  refine Ct.of cf_X7_hasRamp (List.forall_mem_cons.mpr ⟨rfl, List.forall_mem_cons.mpr ⟨rfl, fun _ h => absurd h List.not_mem_nil⟩⟩) (Nat.le_of_ble_eq_true rfl) (l0 := [some (adr G 2), some (.int x)]) rfl (fun C hx hq => ?_)
  refine Ew.iload_n hx dX7_hasRamp_0 rfl ?_
  refine Ew.if_lt hx (tgt := 16) dX7_hasRamp_1 rfl (fun h1 => ?_) (fun h1 => ?_)
  · refine Ew.iconst hx dX7_hasRamp_16 k_iconst_0 ?_
    refine Ew.bret hx hq dX7_hasRamp_17 rfl (by first | exact b2i_01 _ | decide) ?_
    refine ⟨congrArg (fun z => some (Value.int z)) ?_, rfl⟩
    first | exact (b2i_t (by simp only [il, ie] at *; omega)).symm | exact (b2i_f (by simp only [il, ie] at *; omega)).symm
  · refine Ew.iload_n hx dX7_hasRamp_4 rfl ?_
    refine Ew.aload_n hx dX7_hasRamp_5 rfl ?_
    refine Ew.getI hx dX7_hasRamp_6 fg_RX7_46 rfl ?_
    refine Ew.icmp_ge hx (tgt := 16) dX7_hasRamp_9 rfl (fun h9 => ?_) (fun h9 => ?_)
    · refine Ew.iconst hx dX7_hasRamp_16 k_iconst_0 ?_
      refine Ew.bret hx hq dX7_hasRamp_17 rfl (by first | exact b2i_01 _ | decide) ?_
      refine ⟨congrArg (fun z => some (Value.int z)) ?_, rfl⟩
      first | exact (b2i_t (by simp only [il, ie] at *; omega)).symm | exact (b2i_f (by simp only [il, ie] at *; omega)).symm
    · refine Ew.iconst hx dX7_hasRamp_12 k_iconst_1 ?_
      refine Ew.goto hx (tgt := 17) dX7_hasRamp_13 rfl ?_
      refine Ew.bret hx hq dX7_hasRamp_17 rfl (by first | exact b2i_01 _ | decide) ?_
      refine ⟨congrArg (fun z => some (Value.int z)) ?_, rfl⟩
      first | exact (b2i_t (by simp only [il, ie] at *; omega)).symm | exact (b2i_f (by simp only [il, ie] at *; omega)).symm
set_option maxHeartbeats 4000000 in
set_option maxRecDepth 100000 in
theorem ct_X7_isOpenForV (G : GT) (V : Mm) (p r n : Nat) (lv : Int32) (hp : p < 12) (e0 : V (14 + p) 0 = nI r) (e2 : V 2 4 = nI n) (hr : r < n) (hn : n ≤ 4) : Ct G mX7_isOpenFor 1 [adr G 2, adr G (14 + p), .int lv] (V) (Ri (b2i (V (14 + p) 3 ≤ lv - V (10 + r) 0)) V) := by
  refine Ct.of cf_X7_isOpenFor (List.forall_mem_cons.mpr ⟨rfl, List.forall_mem_cons.mpr ⟨rfl, List.forall_mem_cons.mpr ⟨rfl, fun _ h => absurd h List.not_mem_nil⟩⟩⟩) (Nat.le_of_ble_eq_true rfl) (l0 := [some (adr G 2), some (adr G (14 + p)), some (.int lv)]) rfl (fun C hx hq => ?_)
  refine Ew.aload_n hx dX7_isOpenFor_0 rfl ?_
  refine Ew.aload_n hx dX7_isOpenFor_1 rfl ?_
  refine Ew.getI hx dX7_isOpenFor_2 fg_RX7_108 (kd_pm (by omega)) ?_
  refine Ew.callV2 (y' := mX7_hasRamp) hx dX7_isOpenFor_5 ml_RX7_81 cf_X7_hasRamp cv_X7_hasRamp (ct_X7_hasRampV G V _) rfl oc_2 rfl (by decide) (by decide) rfl (Nat.le_of_ble_eq_true rfl) ?_
  rintro _ V9 ⟨rfl, h9⟩; subst V9
  rw [b2i_t (by rw [e0, e2, ie, il, tn (by omega), tn (by omega), tl_0]; omega)]
  refine Ew.if_eq_f hx (tgt := 35) dX7_isOpenFor_8 rfl (by decide) ?_
  refine Ew.aload_n hx dX7_isOpenFor_11 rfl ?_
  refine Ew.getR (8) hx dX7_isOpenFor_12 fg_RX7_27 rfl rfl ?_
  refine Ew.aload_n hx dX7_isOpenFor_15 rfl ?_
  refine Ew.getI hx dX7_isOpenFor_16 fg_RX7_108 (kd_pm (by omega)) ?_
  refine Ew.aldq (10 + r) hx dX7_isOpenFor_19 rg_7 rfl (e0) (by omega) (by omega) ?_
  refine Ew.iload_n hx dX7_isOpenFor_20 rfl ?_
  refine Ew.aload_n hx dX7_isOpenFor_21 rfl ?_
  refine Ew.getI hx dX7_isOpenFor_22 fg_RX7_114 (kd_pm (by omega)) ?_
  refine Ew.callV2 (y' := mX6_isOpen) hx dX7_isOpenFor_25 ml_RX7_160 cf_X6_isOpen cv_X6_isOpen (ct_X6_isOpen G V (10 + r) lv _ (kd_rm (by omega))) (kd_rm (by omega)) oc_9 rfl (by decide) (by decide) rfl (Nat.le_of_ble_eq_true rfl) ?_
  rintro _ V9 ⟨rfl, h9⟩; subst V9
  refine Ew.ifeq_b hx (tgt := 35) dX7_isOpenFor_28 rfl (fun h28 => ?_) (fun h28 => ?_)
  · refine Ew.iconst hx dX7_isOpenFor_35 k_iconst_0 ?_
    refine Ew.bret hx hq dX7_isOpenFor_36 rfl (by first | exact b2i_01 _ | decide) ?_
    refine ⟨congrArg (fun z => some (Value.int z)) ?_, rfl⟩
    first | exact (b2i_t h28).symm | exact (b2i_f h28).symm
  · refine Ew.iconst hx dX7_isOpenFor_31 k_iconst_1 ?_
    refine Ew.goto hx (tgt := 36) dX7_isOpenFor_32 rfl ?_
    refine Ew.bret hx hq dX7_isOpenFor_36 rfl (by first | exact b2i_01 _ | decide) ?_
    refine ⟨congrArg (fun z => some (Value.int z)) ?_, rfl⟩
    first | exact (b2i_t h28).symm | exact (b2i_f h28).symm
noncomputable def psV (V : Mm) (s : Sv) : Nat → Mm
  | 0 => V
  | n + 1 => cif (cms s n (tN s)) (rs (psV V s n) (14 + n) (cif (opn s (rrN s n) (pf s n 3) (s 1)) (usF (V (14 + n))) (loF (V (14 + n))))) (psV V s n)
theorem psV_ne {V : Mm} {s : Sv} : ∀ (n k : Nat), (k < 14 ∨ 14 + n ≤ k) → psV V s n k = V k
  | 0, _, _ => rfl
  | n + 1, k, h => by
    have ih := psV_ne (V := V) (s := s) n k (by omega)
    by_cases hc : cms s n (tN s)
    · rw [show psV V s (n + 1) = _ from cif_t hc, rs_ne _ _ (by omega)]
      exact ih
    · rw [show psV V s (n + 1) = _ from cif_f hc]
      exact ih
theorem psV_rep {V : Mm} {s : Sv} {B : Int} (hR : Rep V 2 s) (hW : WF s B) : ∀ n, n ≤ npN s → RepN (psV V s n) 2 (psS s n) (nrN s) (npN s)
  | 0, _ => hR
  | n + 1, h => by
    have ih := psV_rep hR hW n (by omega)
    have hnp := hW.np.2
    by_cases hc : cms s n (tN s)
    · rw [show psV V s (n + 1) = _ from cif_t hc, show psS s (n + 1) = _ from cif_t hc]
      refine ih.prowU (by omega) (fun j hj => ?_)
      by_cases ho : opn s (rrN s n) (pf s n 3) (s 1)
      · rw [cif_t ho, cif_t ho]
        exact usF_c (hR.row hW (by omega)) j hj
      · rw [cif_f ho, cif_f ho]
        exact loF_c (hR.row hW (by omega)) j hj
    · rw [show psV V s (n + 1) = _ from cif_f hc, show psS s (n + 1) = _ from cif_f hc]
      exact ih
theorem psS_lo (s : Sv) : ∀ (n m : Nat), m < 49 → psS s n m = s m
  | 0, _, _ => rfl
  | n + 1, m, h => by
    have ih := psS_lo s n m h
    by_cases hc : cms s n (tN s)
    · rw [show psS s (n + 1) = _ from cif_t hc, prow_lo _ _ _ _ h]
      exact ih
    · rw [show psS s (n + 1) = _ from cif_f hc]
      exact ih
theorem psV_fr {V : Mm} {s : Sv} : ∀ n, n ≤ 12 → Fr 2 26 V (psV V s n) := fun n hn k hk => psV_ne n k (by omega)
theorem rep_pass {V : Mm} {s : Sv} {B : Int} (hR : Rep V 2 s) (hW : WF s B) (c x1 x0 : Int32) (h1 : x1 = bnd (s 1 + c)) (h0 : x0 = s 0 + 1) : Rep (rs (psV V s (npN s)) 3 (upd (upd (psV V s (npN s) 3) 1 x1) 0 x0)) 2 (nxPass s c) := by
  subst h1; subst h0
  have h := ((psV_rep hR hW (npN s) (Nat.le_refl _)).put 1 (bnd (s 1 + c)) (by decide) (k := 3) (i := 1) rfl rfl).put 0 (s 0 + 1) (by decide) (k := 3) (i := 0) rfl rfl
  have e2 : nrN (nxPass s c) = nrN s := by
    unfold nrN nxPass
    rw [upd_n _ _ (by decide), upd_n _ _ (by decide), psS_lo _ _ _ (by decide)]
  have e3 : npN (nxPass s c) = npN s := by
    unfold npN nxPass
    rw [upd_n _ _ (by decide), upd_n _ _ (by decide), psS_lo _ _ _ (by decide)]
  unfold Rep
  rw [e2, e3]
  have e4 : rs (psV V s (npN s)) 3 (upd (upd (psV V s (npN s) 3) 1 (bnd (s 1 + c))) 0 (s 0 + 1)) = mup (mup (psV V s (npN s)) 3 1 (bnd (s 1 + c))) 3 0 (s 0 + 1) := by
    simp only [mup_rs, rs_same, rs_rs]
  rw [e4]
  exact h
set_option maxHeartbeats 4000000 in
set_option maxRecDepth 100000 in
theorem lp_X7_passDay {G : GT} {C : CT} {V : Mm} {s : Sv} {B : Int} (hR : Rep V 2 s) (hW : WF s B) (c : Int32) (ec : cdPass s c = 0) (hx : Cx G mX7_passDay 2 C) (hq : Cq G (Pst V (cdPass s c) (nI (lsN s (npN s))) (nxPass s c)) C) : ∀ (n i : Nat), i + n = npN s → Ew G C (psV V s i) 36 [some (adr G 2), some (.int c), some (.int (nI (lsN s i))), some (.int (nI i)), none] [] := by
  intro n
  induction n with
  | zero =>
    intro i hi
    refine Ew.iload_n hx dX7_passDay_36 rfl ?_
    refine Ew.aload_n hx dX7_passDay_37 rfl ?_
    refine Ew.getI hx dX7_passDay_38 fg_RX7_53 rfl ?_
    have hnp := hW.np
    have hnr := hW.nr
    have ht := hW.t
    rw [psV_ne _ _ (Or.inl (by decide)), hR.nps, hnp.1]
    refine Ew.icmp_ge_t hx (tgt := 112) dX7_passDay_41 rfl (nI_le (by omega) (by omega)) ?_
    refine Ew.aload_n hx dX7_passDay_112 rfl ?_
    refine Ew.getR (3) hx dX7_passDay_113 fg_RX7_12 rfl rfl ?_
    refine Ew.iload_n hx dX7_passDay_116 rfl ?_
    refine Ew.callV2 (y' := mX10_nextDay) hx dX7_passDay_117 ml_RX7_149 cf_X10_nextDay cv_X10_nextDay (ct_X10_nextDay G _ c) rfl oc_3 rfl (by decide) (by decide) rfl (Nat.le_of_ble_eq_true rfl) ?_
    rintro _ V9 ⟨rfl, h9⟩; subst V9
    refine Ew.iload_n hx dX7_passDay_120 rfl ?_
    refine Ew.iret hx hq dX7_passDay_121 rfl ?_
    rw [show i = npN s by omega]
    refine Or.inr ⟨ec, rfl, rep_pass hR hW c _ _ (by rw [psV_ne _ _ (Or.inl (by decide)), hR.level]) (by rw [psV_ne _ _ (Or.inl (by decide)), hR.today]), ?_⟩
    exact (psV_fr _ (by omega)).rs (by decide)
  | succ n ih =>
    intro i hi
    refine Ew.iload_n hx dX7_passDay_36 rfl ?_
    refine Ew.aload_n hx dX7_passDay_37 rfl ?_
    refine Ew.getI hx dX7_passDay_38 fg_RX7_53 rfl ?_
    have hnp := hW.np
    have hnr := hW.nr
    have ht := hW.t
    obtain ⟨e1, e2, e3, e4, e5, e6, -⟩ := hW.pl (show i < npN s by omega)
    rw [psV_ne _ _ (Or.inl (by decide)), hR.nps, hnp.1]
    refine Ew.icmp_ge_f hx (tgt := 112) dX7_passDay_41 rfl (nI_ge (by omega) (by omega)) ?_
    refine Ew.aload_n hx dX7_passDay_44 rfl ?_
    refine Ew.getR (9) hx dX7_passDay_45 fg_RX7_33 rfl rfl ?_
    refine Ew.iload_n hx dX7_passDay_48 rfl ?_
    refine Ew.aldq (14 + i) hx dX7_passDay_49 rg_8 rfl (rfl) (by omega) (by omega) ?_
    refine Ew.astore hx dX7_passDay_50 (by decide) rfl ?_
    refine Ew.aload hx dX7_passDay_52 rfl ?_
    refine Ew.aload_n hx dX7_passDay_54 rfl ?_
    refine Ew.getR (3) hx dX7_passDay_55 fg_RX7_12 rfl rfl ?_
    refine Ew.getI hx dX7_passDay_58 fg_RX7_89 rfl ?_
    refine Ew.aload_n hx dX7_passDay_61 rfl ?_
    refine Ew.getR (3) hx dX7_passDay_62 fg_RX7_12 rfl rfl ?_
    refine Ew.getI hx dX7_passDay_65 fg_RX7_89 rfl ?_
    rw [psV_ne _ _ (Or.inl (by decide)), hR.today]
    refine Ew.callV2 (y' := mX4_comesOn) hx dX7_passDay_68 ml_RX7_136 cf_X4_comesOn cv_X4_comesOn (ct_X4_comesOn G _ (14 + i) _ _ (kd_pm (by omega))) (kd_pm (by omega)) oc_10 rfl (by decide) (by decide) rfl (Nat.le_of_ble_eq_true rfl) ?_
    rintro _ V9 ⟨rfl, h9⟩; subst V9
    rw [psV_ne _ _ (Or.inr (Nat.le_refl _)), hR.pm (show i < npN s by omega) (by omega) (by decide), hR.pm (show i < npN s by omega) (by omega) (by decide), hR.pm (show i < npN s by omega) (by omega) (by decide)]
    refine Ew.ifeq_b hx (tgt := 106) dX7_passDay_71 rfl (fun h71 => ?_) (fun h71 => ?_)
    · have h71 : ¬ cms s i (tN s) := fun q => h71 (by unfold cms at q; rw [← ht.1] at q; exact q)
      have e : lsN s (i + 1) = lsN s i := cntN_f (fun q => h71 q.1)
      have em : psV V s (i + 1) = psV V s i := cif_f h71
      refine Ew.iinc hx dX7_passDay_106 rfl (k_iinc_1 _) (by decide) rfl ?_
      refine Ew.goto hx (tgt := 36) dX7_passDay_109 rfl ?_
      have q := ih (i + 1) (by omega)
      rw [e, em] at q
      repeat rw [nI_1]
      exact Ew.drop 4 q
    · have h71 : cms s i (tN s) := by unfold cms; rw [← ht.1]; exact h71
      refine Ew.aload_n hx dX7_passDay_74 rfl ?_
      refine Ew.aload hx dX7_passDay_75 rfl ?_
      refine Ew.aload_n hx dX7_passDay_77 rfl ?_
      refine Ew.getR (3) hx dX7_passDay_78 fg_RX7_12 rfl rfl ?_
      refine Ew.getI hx dX7_passDay_81 fg_RX7_64 rfl ?_
      rw [psV_ne _ 3 (Or.inl (by decide)), hR.level]
      refine Ew.callV2 (y' := mX7_isOpenFor) hx dX7_passDay_84 ml_RX7_139 cf_X7_isOpenFor cv_X7_isOpenFor (ct_X7_isOpenForV G _ i (rrN s i) (nrN s) (s 1) (by omega) (by rw [psV_ne _ _ (Or.inr (Nat.le_refl _)), hR.pm (show i < npN s by omega) (by omega) (by decide)]; exact e5) (by rw [psV_ne _ _ (Or.inl (by decide)), hR.nrs]; exact hnr.1) e6 hnr.2) rfl oc_2 rfl (by decide) (by decide) rfl (Nat.le_of_ble_eq_true rfl) ?_
      rintro _ V9 ⟨rfl, h9⟩; subst V9
      rw [psV_ne _ (14 + i) (Or.inr (Nat.le_refl _)), psV_ne _ (10 + rrN s i) (Or.inl (by omega)), hR.pm (show i < npN s by omega) (by omega) (by decide), hR.rm e6 (by omega) (by decide)]
      refine Ew.ifeq_b hx (tgt := 98) dX7_passDay_87 rfl (fun h87 => ?_) (fun h87 => ?_)
      · have h87 : ¬ opn s (rrN s i) (pf s i 3) (s 1) := h87
        have e : lsN s (i + 1) = lsN s i + 1 := cntN_t ⟨h71, h87⟩
        have em : psV V s (i + 1) = rs (psV V s i) (14 + i) (loF (psV V s i (14 + i))) := by rw [psV_ne _ (14 + i) (Or.inr (Nat.le_refl _))]; exact (cif_t h71).trans (by rw [cif_f h87])
        refine Ew.aload hx dX7_passDay_98 rfl ?_
        refine Ew.callV2 (y' := mX4_loseDay) hx dX7_passDay_100 ml_RX7_146 cf_X4_loseDay cv_X4_loseDay (ct_X4_loseDay G _ (14 + i) (kd_pm (by omega))) (kd_pm (by omega)) oc_10 rfl (by decide) (by decide) rfl (Nat.le_of_ble_eq_true rfl) ?_
        rintro _ V9 ⟨rfl, h9⟩; subst V9
        refine Ew.iinc hx dX7_passDay_103 rfl (k_iinc_1 _) (by decide) rfl ?_
        refine Ew.iinc hx dX7_passDay_106 rfl (k_iinc_1 _) (by decide) rfl ?_
        refine Ew.goto hx (tgt := 36) dX7_passDay_109 rfl ?_
        have q := ih (i + 1) (by omega)
        rw [e, em] at q
        repeat rw [nI_1]
        exact Ew.drop 4 q
      · have h87 : opn s (rrN s i) (pf s i 3) (s 1) := h87
        have e : lsN s (i + 1) = lsN s i := cntN_f (fun q => q.2 h87)
        have em : psV V s (i + 1) = rs (psV V s i) (14 + i) (usF (psV V s i (14 + i))) := by rw [psV_ne _ (14 + i) (Or.inr (Nat.le_refl _))]; exact (cif_t h71).trans (by rw [cif_t h87])
        refine Ew.aload hx dX7_passDay_90 rfl ?_
        refine Ew.callV2 (y' := mX4_useDay) hx dX7_passDay_92 ml_RX7_143 cf_X4_useDay cv_X4_useDay (ct_X4_useDay G _ (14 + i) (kd_pm (by omega))) (kd_pm (by omega)) oc_10 rfl (by decide) (by decide) rfl (Nat.le_of_ble_eq_true rfl) ?_
        rintro _ V9 ⟨rfl, h9⟩; subst V9
        refine Ew.goto hx (tgt := 106) dX7_passDay_95 rfl ?_
        refine Ew.iinc hx dX7_passDay_106 rfl (k_iinc_1 _) (by decide) rfl ?_
        refine Ew.goto hx (tgt := 36) dX7_passDay_109 rfl ?_
        have q := ih (i + 1) (by omega)
        rw [e, em] at q
        repeat rw [nI_1]
        exact Ew.drop 4 q
set_option maxHeartbeats 4000000 in
set_option maxRecDepth 100000 in
theorem ct_X7_passDay (G : GT) (V : Mm) {s : Sv} {B : Int} (hR : Rep V 2 s) (hW : WF s B) (c : Int32) : Ct G mX7_passDay 2 [adr G 2, .int c] (V) (Pst V (cdPass s c) (nI (lsN s (npN s))) (nxPass s c)) := by
  refine Ct.of cf_X7_passDay (List.forall_mem_cons.mpr ⟨rfl, List.forall_mem_cons.mpr ⟨rfl, fun _ h => absurd h List.not_mem_nil⟩⟩) (Nat.le_of_ble_eq_true rfl) (l0 := [some (adr G 2), some (.int c), none, none, none]) rfl (fun C hx hq => ?_)
  have ht := hW.t
  refine Ew.iload_n hx dX7_passDay_0 rfl ?_
  refine Ew.sipush hx dX7_passDay_1 k_sipush_m500 ?_
  refine Ew.sipush hx dX7_passDay_4 k_sipush_500 ?_
  refine Ew.callSN (y' := mX11_isWithin) hx dX7_passDay_7 (host := RX11) (List.mem_of_getElem? (i := 6) rfl) cf_X11_isWithin cs_X11_isWithin (ct_X11_isWithin G _ _ _ _) rfl (by decide) (by decide) rfl (Nat.le_of_ble_eq_true rfl) ?_
  rintro _ V9 ⟨rfl, h9⟩; subst V9
  refine Ew.ifne_b hx (tgt := 16) dX7_passDay_10 rfl (fun h10 => ?_) (fun h10 => ?_)
  · have ok : cdPass s c = _ := cif_t h10
    refine Ew.aload_n hx dX7_passDay_16 rfl ?_
    refine Ew.getR (3) hx dX7_passDay_17 fg_RX7_12 rfl rfl ?_
    refine Ew.getI hx dX7_passDay_20 fg_RX7_89 rfl ?_
    refine Ew.sipush hx dX7_passDay_23 k_sipush_181 ?_
    rw [hR.today]
    refine Ew.icmp_lt hx (tgt := 32) dX7_passDay_26 rfl (fun h26 => ?_) (fun h26 => ?_)
    · have ec : cdPass s c = 0 := ok.trans (cif_f (fun q => by rw [q] at h26; exact absurd h26 (by decide)))
      refine Ew.iconst hx dX7_passDay_32 k_iconst_0 ?_
      refine Ew.istore_n hx dX7_passDay_33 (by decide) rfl ?_
      refine Ew.iconst hx dX7_passDay_34 k_iconst_0 ?_
      refine Ew.istore_n hx dX7_passDay_35 (by decide) rfl ?_
      exact lp_X7_passDay hR hW c ec hx hq (npN s) 0 (by omega)
    · have ec : cdPass s c = -100002 := ok.trans (cif_t (by rw [il, tl_181, ht.1, tn (by omega)] at h26; rw [iq, tl_181, ht.1, tn (by omega)]; omega))
      refine Ew.ldc hx dX7_passDay_29 kn_RX7_96 ?_
      refine Ew.iret hx hq dX7_passDay_31 rfl ?_
      exact Or.inl ⟨by rw [ec]; decide, by rw [ec], rfl⟩
  · have ec : cdPass s c = -100001 := cif_f h10
    refine Ew.ldc hx dX7_passDay_13 kn_RX7_63 ?_
    refine Ew.iret hx hq dX7_passDay_15 rfl ?_
    exact Or.inl ⟨by rw [ec]; decide, by rw [ec], rfl⟩
