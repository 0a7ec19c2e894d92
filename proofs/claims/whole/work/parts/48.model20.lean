theorem rsn_c (s : Sv) (r : Nat) (d q : Int32) : rsn s r d q = 0 ∨ ∃ m : Nat, 1 ≤ m ∧ m ≤ 3 ∧ rsn s r d q = nI m := by
  unfold rsn
  by_cases h1 : ¬ opn s r d (s 1)
  · rw [cif_t h1]; exact Or.inr ⟨1, by decide, by decide, rfl⟩
  · rw [cif_f h1]
    by_cases h2 : ¬ (0 ≤ q ∧ q < s 3) ∨ ¬ pf s (nt q) 0 = nI r ∨ ¬ cms s (nt q) (tN s)
    · rw [cif_t h2]; exact Or.inr ⟨2, by decide, by decide, rfl⟩
    · rw [cif_f h2]
      by_cases h3 : pf s (nt q) 3 < d
      · rw [cif_t h3]; exact Or.inr ⟨3, by decide, by decide, rfl⟩
      · rw [cif_f h3]; exact Or.inl rfl
theorem ix_7 {n : Nat} (h : n ≤ 3) (h1 : 1 ≤ n) : 7 + nI n - 1 = nI (7 + (n - 1)) := (show ∀ n, n ≤ 3 → 1 ≤ n → 7 + nI n - 1 = nI (7 + (n - 1)) by decide) n h h1
set_option maxHeartbeats 4000000 in
set_option maxRecDepth 100000 in
theorem ct_X12_launch (G : GT) (V : Mm) {s : Sv} {B : Int} {z : Nat} {h : Nat → Sv} (hM : MR V s) (hW : WF s B) (hS : MS V z h) (x d q : Int32) : Ct G mX12_launch 3 [adr G 532, .int x, .int d, .int q] (V) (MAct V s z h (cdLaunch s x d q) (anLaunch s x d q) (nxLaunch s x d q)) := by
  refine Ct.of cf_X12_launch (List.forall_mem_cons.mpr ⟨rfl, List.forall_mem_cons.mpr ⟨rfl, List.forall_mem_cons.mpr ⟨rfl, List.forall_mem_cons.mpr ⟨rfl, fun _ h => absurd h List.not_mem_nil⟩⟩⟩⟩) (Nat.le_of_ble_eq_true rfl) (l0 := [some (adr G 532), some (.int x), some (.int d), some (.int q), none]) rfl (fun C hx hq => ?_)
  refine Ew.aload_n hx dX12_launch_0 rfl ?_
  refine Ew.iconst hx dX12_launch_1 k_iconst_0 ?_
  refine Ew.putI hx dX12_launch_2 pg_RX12_31 rfl ?_
  refine Ew.aload_n hx dX12_launch_5 rfl ?_
  refine Ew.iload_n hx dX12_launch_6 rfl ?_
  refine Ew.callV2 (y' := mX12_isRamp) hx dX12_launch_7 ml_RX12_86 cf_X12_isRamp cv_X12_isRamp (ct_X12_isRamp G _ hM.m0 hW x) rfl oc_19 rfl (by decide) (by decide) rfl (Nat.le_of_ble_eq_true rfl) ?_
  rintro _ V9 ⟨rfl, h9⟩; subst V9
  refine Ew.ifeq_b hx (tgt := 33) dX12_launch_10 rfl (fun h10 => ?_) (fun h10 => ?_)
  · have ec : cdLaunch s x d q = -100001 := cif_f (fun w => h10 w.1)
    refine Ew.ldc hx dX12_launch_33 kn_RX12_69 ?_
    refine Ew.iret hx hq dX12_launch_35 rfl ?_
    rw [← ec]
    exact mact_no (fun _ _ => rfl) hM hS (by rw [ec]; decide)
  · refine Ew.iload_n hx dX12_launch_13 rfl ?_
    refine Ew.callS (y' := mX12_isDraught) hx dX12_launch_14 ml_RX12_93 cf_X12_isDraught cs_X12_isDraught (ct_X12_isDraught G _ d) rfl (by decide) (by decide) rfl (Nat.le_of_ble_eq_true rfl) ?_
    rintro _ V9 ⟨rfl, h9⟩; subst V9
    refine Ew.ifeq_b hx (tgt := 33) dX12_launch_17 rfl (fun h17 => ?_) (fun h17 => ?_)
    · have ec : cdLaunch s x d q = -100001 := cif_f (fun w => h17 w.2.1)
      refine Ew.ldc hx dX12_launch_33 kn_RX12_69 ?_
      refine Ew.iret hx hq dX12_launch_35 rfl ?_
      rw [← ec]
      exact mact_no (fun _ _ => rfl) hM hS (by rw [ec]; decide)
    · refine Ew.iload_n hx dX12_launch_20 rfl ?_
      refine Ew.iconst hx dX12_launch_21 k_iconst_m1 ?_
      refine Ew.icmp_eq hx (tgt := 36) dX12_launch_22 rfl (fun h22 => ?_) (fun h22 => ?_)
      · have hq0 : q = -1 ∨ (0 ≤ q ∧ q < s 3) := Or.inl h22
        have ok : cdLaunch s x d q = 0 := cif_t ⟨h10, h17, hq0⟩
        obtain ⟨r, hxr, hr⟩ := hW.rix h10
        have hr4 : r < 4 := by have := hW.nr.2; omega
        have hxn : nt x = r := by rw [hxr, nt_nI (by omega)]
        refine Ew.aload_n hx dX12_launch_36 rfl ?_
        refine Ew.callV2 (y' := mX12_act) hx dX12_launch_37 ml_RX12_70 cf_X12_act cv_X12_act (ct_X12_act G _ hM.m0 hS.m0) rfl oc_19 rfl (by decide) (by decide) rfl (Nat.le_of_ble_eq_true rfl) ?_
        rintro v V2 hA; obtain rfl := hA.1; have hM2 := hA.mr hM.m0
        refine Ew.aload_n hx dX12_launch_40 rfl ?_
        refine Ew.iload_n hx dX12_launch_41 rfl ?_
        refine Ew.iload_n hx dX12_launch_42 rfl ?_
        refine Ew.iload_n hx dX12_launch_43 rfl ?_
        rw [hxr] at hq ok
        rw [hxr]
        unfold anLaunch nxLaunch at hq
        rw [nt_nI (by omega)] at hq
        refine Ew.callV2 (y' := mX12_reasonFor) hx dX12_launch_44 ml_RX12_149 cf_X12_reasonFor cv_X12_reasonFor (ct_X12_reasonFor G V2 hM2 hW hr4 d q hq0) rfl oc_19 rfl (by decide) (by decide) rfl (Nat.le_of_ble_eq_true rfl) ?_
        rintro _ V9 ⟨rfl, h9⟩; subst V9
        refine Ew.istore hx dX12_launch_47 (by decide) rfl ?_
        refine Ew.iload hx dX12_launch_49 rfl ?_
        refine Ew.if_ne hx (tgt := 56) dX12_launch_51 rfl (fun h51 => ?_) (fun h51 => ?_)
        · rw [cif_f h51, cif_f h51] at hq
          obtain ⟨m, m1, m3, em⟩ := (rsn_c s r d q).resolve_left h51
          rw [em] at hq
          rw [em]
          rw [nt_nI (by omega)] at hq
          refine Ew.aload_n hx dX12_launch_56 rfl ?_
          refine Ew.getR (533) hx dX12_launch_57 fg_RX12_7 rfl rfl ?_
          refine Ew.bipush hx dX12_launch_60 k_bipush_7 ?_
          refine Ew.iload hx dX12_launch_62 rfl ?_
          refine Ew.iadd hx dX12_launch_64 ?_
          refine Ew.iconst hx dX12_launch_65 k_iconst_1 ?_
          refine Ew.isub hx dX12_launch_66 ?_
          refine Ew.dup2 hx dX12_launch_67 rfl rfl ?_
          refine Ew.iald (i := 7 + (m - 1)) hx dX12_launch_68 ag_20 rfl (ix_7 m3 m1) (by omega) ?_
          rw [hM2 _ (by omega)]
          refine Ew.iconst hx dX12_launch_69 k_iconst_1 ?_
          refine Ew.iadd hx dX12_launch_70 ?_
          refine Ew.iast (i := 7 + (m - 1)) hx dX12_launch_71 ag_20 rfl (ix_7 m3 m1) (by omega) ?_
          have hQ := hM2.put (7 + (m - 1)) (s (7 + (m - 1)) + 1)
          refine Ew.aload_n hx dX12_launch_72 rfl ?_
          refine Ew.getR (533) hx dX12_launch_73 fg_RX12_7 rfl rfl ?_
          refine Ew.bipush hx dX12_launch_76 k_bipush_10 ?_
          refine Ew.dup2 hx dX12_launch_78 rfl rfl ?_
          refine Ew.iald (i := 10) hx dX12_launch_79 ag_20 rfl (rfl) (by decide) ?_
          rw [hQ 10 (by decide), upd_n _ _ (by omega)]
          refine Ew.aload_n hx dX12_launch_80 rfl ?_
          refine Ew.getR (533) hx dX12_launch_81 fg_RX12_7 rfl rfl ?_
          refine Ew.iconst hx dX12_launch_84 k_iconst_4 ?_
          refine Ew.iload hx dX12_launch_85 rfl ?_
          refine Ew.iadd hx dX12_launch_87 ?_
          refine Ew.iconst hx dX12_launch_88 k_iconst_1 ?_
          refine Ew.isub hx dX12_launch_89 ?_
          refine Ew.iald (i := 4 + (m - 1)) hx dX12_launch_90 ag_20 rfl (ix_f m3 m1) (by omega) ?_
          rw [hQ _ (by omega), upd_n _ _ (by omega)]
          refine Ew.iadd hx dX12_launch_91 ?_
          refine Ew.iast (i := 10) hx dX12_launch_92 ag_20 rfl (rfl) (by decide) ?_
          have hQ2 := hQ.put 10 (s 10 + s (4 + (m - 1)))
          refine Ew.aload_n hx dX12_launch_93 rfl ?_
          refine Ew.getR (533) hx dX12_launch_94 fg_RX12_7 rfl rfl ?_
          refine Ew.iconst hx dX12_launch_97 k_iconst_4 ?_
          refine Ew.iload hx dX12_launch_98 rfl ?_
          refine Ew.iadd hx dX12_launch_100 ?_
          refine Ew.iconst hx dX12_launch_101 k_iconst_1 ?_
          refine Ew.isub hx dX12_launch_102 ?_
          refine Ew.iald (i := 4 + (m - 1)) hx dX12_launch_103 ag_20 rfl (ix_f m3 m1) (by omega) ?_
          rw [hQ2 _ (by omega), upd_n _ _ (by omega), upd_n _ _ (by omega)]
          refine Ew.iret hx hq dX12_launch_104 rfl ?_
          exact mact_ok (fun _ _ => rfl) hA ok hQ2 (fun k h1 _ => by rw [mup_ne _ _ _ h1, mup_ne _ _ _ h1])
        · rw [cif_t h51, cif_t h51] at hq
          refine Ew.iconst hx dX12_launch_54 k_iconst_0 ?_
          refine Ew.iret hx hq dX12_launch_55 rfl ?_
          exact mact_ok (fun _ _ => rfl) hA ok hM2 (fun _ _ _ => rfl)
      · refine Ew.aload_n hx dX12_launch_25 rfl ?_
        refine Ew.iload_n hx dX12_launch_26 rfl ?_
        refine Ew.callV2 (y' := mX12_isPermit) hx dX12_launch_27 ml_RX12_112 cf_X12_isPermit cv_X12_isPermit (ct_X12_isPermit G _ hM.m0 hW q) rfl oc_19 rfl (by decide) (by decide) rfl (Nat.le_of_ble_eq_true rfl) ?_
        rintro _ V9 ⟨rfl, h9⟩; subst V9
        refine Ew.ifne_b hx (tgt := 36) dX12_launch_30 rfl (fun h30 => ?_) (fun h30 => ?_)
        · have hq0 : q = -1 ∨ (0 ≤ q ∧ q < s 3) := Or.inr h30
          have ok : cdLaunch s x d q = 0 := cif_t ⟨h10, h17, hq0⟩
          obtain ⟨r, hxr, hr⟩ := hW.rix h10
          have hr4 : r < 4 := by have := hW.nr.2; omega
          have hxn : nt x = r := by rw [hxr, nt_nI (by omega)]
          refine Ew.aload_n hx dX12_launch_36 rfl ?_
          refine Ew.callV2 (y' := mX12_act) hx dX12_launch_37 ml_RX12_70 cf_X12_act cv_X12_act (ct_X12_act G _ hM.m0 hS.m0) rfl oc_19 rfl (by decide) (by decide) rfl (Nat.le_of_ble_eq_true rfl) ?_
          rintro v V2 hA; obtain rfl := hA.1; have hM2 := hA.mr hM.m0
          refine Ew.aload_n hx dX12_launch_40 rfl ?_
          refine Ew.iload_n hx dX12_launch_41 rfl ?_
          refine Ew.iload_n hx dX12_launch_42 rfl ?_
          refine Ew.iload_n hx dX12_launch_43 rfl ?_
          rw [hxr] at hq ok
          rw [hxr]
          unfold anLaunch nxLaunch at hq
          rw [nt_nI (by omega)] at hq
          refine Ew.callV2 (y' := mX12_reasonFor) hx dX12_launch_44 ml_RX12_149 cf_X12_reasonFor cv_X12_reasonFor (ct_X12_reasonFor G V2 hM2 hW hr4 d q hq0) rfl oc_19 rfl (by decide) (by decide) rfl (Nat.le_of_ble_eq_true rfl) ?_
          rintro _ V9 ⟨rfl, h9⟩; subst V9
          refine Ew.istore hx dX12_launch_47 (by decide) rfl ?_
          refine Ew.iload hx dX12_launch_49 rfl ?_
          refine Ew.if_ne hx (tgt := 56) dX12_launch_51 rfl (fun h51 => ?_) (fun h51 => ?_)
          · rw [cif_f h51, cif_f h51] at hq
            obtain ⟨m, m1, m3, em⟩ := (rsn_c s r d q).resolve_left h51
            rw [em] at hq
            rw [em]
            rw [nt_nI (by omega)] at hq
            refine Ew.aload_n hx dX12_launch_56 rfl ?_
            refine Ew.getR (533) hx dX12_launch_57 fg_RX12_7 rfl rfl ?_
            refine Ew.bipush hx dX12_launch_60 k_bipush_7 ?_
            refine Ew.iload hx dX12_launch_62 rfl ?_
            refine Ew.iadd hx dX12_launch_64 ?_
            refine Ew.iconst hx dX12_launch_65 k_iconst_1 ?_
            refine Ew.isub hx dX12_launch_66 ?_
            refine Ew.dup2 hx dX12_launch_67 rfl rfl ?_
            refine Ew.iald (i := 7 + (m - 1)) hx dX12_launch_68 ag_20 rfl (ix_7 m3 m1) (by omega) ?_
            rw [hM2 _ (by omega)]
            refine Ew.iconst hx dX12_launch_69 k_iconst_1 ?_
            refine Ew.iadd hx dX12_launch_70 ?_
            refine Ew.iast (i := 7 + (m - 1)) hx dX12_launch_71 ag_20 rfl (ix_7 m3 m1) (by omega) ?_
            have hQ := hM2.put (7 + (m - 1)) (s (7 + (m - 1)) + 1)
            refine Ew.aload_n hx dX12_launch_72 rfl ?_
            refine Ew.getR (533) hx dX12_launch_73 fg_RX12_7 rfl rfl ?_
            refine Ew.bipush hx dX12_launch_76 k_bipush_10 ?_
            refine Ew.dup2 hx dX12_launch_78 rfl rfl ?_
            refine Ew.iald (i := 10) hx dX12_launch_79 ag_20 rfl (rfl) (by decide) ?_
            rw [hQ 10 (by decide), upd_n _ _ (by omega)]
            refine Ew.aload_n hx dX12_launch_80 rfl ?_
            refine Ew.getR (533) hx dX12_launch_81 fg_RX12_7 rfl rfl ?_
            refine Ew.iconst hx dX12_launch_84 k_iconst_4 ?_
            refine Ew.iload hx dX12_launch_85 rfl ?_
            refine Ew.iadd hx dX12_launch_87 ?_
            refine Ew.iconst hx dX12_launch_88 k_iconst_1 ?_
            refine Ew.isub hx dX12_launch_89 ?_
            refine Ew.iald (i := 4 + (m - 1)) hx dX12_launch_90 ag_20 rfl (ix_f m3 m1) (by omega) ?_
            rw [hQ _ (by omega), upd_n _ _ (by omega)]
            refine Ew.iadd hx dX12_launch_91 ?_
            refine Ew.iast (i := 10) hx dX12_launch_92 ag_20 rfl (rfl) (by decide) ?_
            have hQ2 := hQ.put 10 (s 10 + s (4 + (m - 1)))
            refine Ew.aload_n hx dX12_launch_93 rfl ?_
            refine Ew.getR (533) hx dX12_launch_94 fg_RX12_7 rfl rfl ?_
            refine Ew.iconst hx dX12_launch_97 k_iconst_4 ?_
            refine Ew.iload hx dX12_launch_98 rfl ?_
            refine Ew.iadd hx dX12_launch_100 ?_
            refine Ew.iconst hx dX12_launch_101 k_iconst_1 ?_
            refine Ew.isub hx dX12_launch_102 ?_
            refine Ew.iald (i := 4 + (m - 1)) hx dX12_launch_103 ag_20 rfl (ix_f m3 m1) (by omega) ?_
            rw [hQ2 _ (by omega), upd_n _ _ (by omega), upd_n _ _ (by omega)]
            refine Ew.iret hx hq dX12_launch_104 rfl ?_
            exact mact_ok (fun _ _ => rfl) hA ok hQ2 (fun k h1 _ => by rw [mup_ne _ _ _ h1, mup_ne _ _ _ h1])
          · rw [cif_t h51, cif_t h51] at hq
            refine Ew.iconst hx dX12_launch_54 k_iconst_0 ?_
            refine Ew.iret hx hq dX12_launch_55 rfl ?_
            exact mact_ok (fun _ _ => rfl) hA ok hM2 (fun _ _ _ => rfl)
        · have ec : cdLaunch s x d q = -100001 := cif_f (fun w => by
            rcases w.2.2 with w | w
            · exact h22 w
            · exact h30 w)
          refine Ew.ldc hx dX12_launch_33 kn_RX12_69 ?_
          refine Ew.iret hx hq dX12_launch_35 rfl ?_
          rw [← ec]
          exact mact_no (fun _ _ => rfl) hM hS (by rw [ec]; decide)
