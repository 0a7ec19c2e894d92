theorem sumN_ind {f : Nat → Int32} {k : Nat} : ∀ m, sumN (fun r => cif (r = k) (f r + 1) (f r)) m = cif (k < m) (sumN f m + 1) (sumN f m)
  | 0 => by rw [cif_f (by omega)]; rfl
  | m + 1 => by
    have ih := sumN_ind (f := f) (k := k) m
    show sumN (fun r => cif (r = k) (f r + 1) (f r)) m + cif (m = k) (f m + 1) (f m) = _
    rw [ih]
    by_cases h : m = k
    · subst h
      rw [cif_f (by omega), cif_t rfl, cif_t (by omega)]
      show sumN f m + (f m + 1) = sumN f m + f m + 1
      rw [Int32.add_assoc]
    · rw [cif_f h]
      by_cases h2 : k < m
      · rw [cif_t h2, cif_t (by omega)]
        show sumN f m + 1 + f m = sumN f m + f m + 1
        rw [Int32.add_assoc, Int32.add_comm 1, ← Int32.add_assoc]
      · rw [cif_f h2, cif_f (by omega)]
        rfl
noncomputable def cDt (s : Sv) (n : Nat) : Nat := cntN (fun p => 0 < dtc s p) n
theorem cTo_sum {s : Sv} {B : Int} (hW : WF s B) : ∀ n, n ≤ npN s → sumN (fun r => nI (cTo s (nI r) n)) (nrN s) = nI (cDt s n)
  | 0, _ => by
    have q : ∀ m, sumN (fun r => nI (cTo s (nI r) 0)) m = 0 := fun m => by
      induction m with
      | zero => rfl
      | succ m ih =>
        show sumN (fun r => nI (cTo s (nI r) 0)) m + 0 = 0
        rw [ih]; rfl
    exact q _
  | n + 1, h => by
    have ih := cTo_sum hW n (by omega)
    have hnr := hW.nr.2
    obtain ⟨-, -, -, -, e5, e6, -⟩ := hW.pl (show n < npN s by omega)
    by_cases hd : 0 < dtc s n
    · rw [show cDt s (n + 1) = cDt s n + 1 from cntN_t hd, ← nI_1, ← ih]
      have e := sumN_ind (f := fun r => nI (cTo s (nI r) n)) (k := rrN s n) (nrN s)
      rw [cif_t e6] at e
      rw [← e]
      refine sumN_c _ (fun r hr => ?_)
      by_cases hq : r = rrN s n
      · rw [cif_t hq, show cTo s (nI r) (n + 1) = cTo s (nI r) n + 1 from cntN_t ⟨by rw [e5, hq], hd⟩, nI_1]
      · rw [cif_f hq, show cTo s (nI r) (n + 1) = cTo s (nI r) n from cntN_f (fun z => hq (by
          have z1 := z.1
          rw [e5] at z1
          exact ((nI_eq (by omega) (by omega)).mp z1).symm))]
    · rw [show cDt s (n + 1) = cDt s n from cntN_f hd, ← ih]
      refine sumN_c _ (fun r hr => ?_)
      rw [show cTo s (nI r) (n + 1) = cTo s (nI r) n from cntN_f (fun z => hd z.2)]
theorem prI_c {f g : Nat → Int32} {w t : Int32} (h : ∀ j, j < 12 → f j = g j) : prI f w t = prI g w t := by
  unfold prI
  rw [h 1 (by decide), h 2 (by decide), h 11 (by decide)]
  by_cases h1 : w.toInt < 0 ∨ 13 ≤ w.toInt
  · rw [if_pos h1, if_pos h1]
  · rw [if_neg h1, if_neg h1]
    by_cases h2 : w = 11
    · rw [if_pos h2, if_pos h2]
    · rw [if_neg h2, if_neg h2]
      refine h _ ?_
      by_cases h3 : w = 12
      · rw [if_pos h3]; decide
      · rw [if_neg h3]
        rw [iq, show (12 : Int32).toInt = 12 from rfl] at h3
        show w.toInt.toNat < 12
        omega
theorem lw_lo (s : Sv) (a : Nat) : ∀ n, tN s + n ≤ a → lwF s a n = 5000
  | 0, _ => rfl
  | n + 1, h => by
    rw [show lwF s a (n + 1) = lwF s a n from if_neg (fun q => by omega)]
    exact lw_lo s a n (by omega)
theorem lw_one {s : Sv} {B : Int} (hW : WF s B) {D : Nat} (h : tN s ≤ D) : lwF s D (D + 1 - tN s) = FC s (D - tN s) := by
  rw [show D + 1 - tN s = (D - tN s) + 1 by omega]
  have e := lw_lo s D (D - tN s) (by omega)
  by_cases hc : FC s (D - tN s) < 5000
  · exact if_pos ⟨by omega, by rw [e]; exact hc⟩
  · rw [show lwF s D (D - tN s + 1) = lwF s D (D - tN s) from if_neg (fun q => hc (by have q2 := q.2; rw [e] at q2; exact q2)), e]
    have hb := FC_b hW (D - tN s)
    rw [il, tl_5000] at hc
    rw [iq, tl_5000]
    omega
noncomputable def anCount (s : Sv) (zI len w : Int32) : Int32 := cif (8 ≤ w ∧ w ≤ 13) (s (4 + (nt w - 8))) (cif (0 ≤ w ∧ w ≤ 3) (s (nt w)) (cif (w = 4) (nI (cDt s (npN s))) (cif (w = 5) (s 193 + s 387) (cif (w = 6) zI (cif (w = 7) len (-100001))))))
noncomputable def anRamp (s : Sv) (x w : Int32) : Int32 := cif (0 ≤ x ∧ x < s 2) (cif (0 ≤ w ∧ w ≤ 2) (rf s (nt x) (nt w)) (cif (w = 3) (nI (cTo s x (npN s))) (cif (w = 4) (nI (cOn s x (tN s) (npN s))) (cif (w = 5) (gdI (s 1) (rf s (nt x) 0)) (-100001))))) (-100001)
noncomputable def anPermit (s : Sv) (x w : Int32) : Int32 := cif (0 ≤ x ∧ x < s 3) (prI (prw s (nt x)) w (s 0)) (-100001)
noncomputable def anMoney (s : Sv) (w : Int32) : Int32 := cif (0 ≤ w ∧ w ≤ 3) (sumN (fun p => pf s p (5 + nt w)) (npN s)) (cif (w = 4) (sumN (fun p => pf s p 4 * dtc s p) (npN s)) (cif (w = 5) (s 10) (-100001)))
noncomputable def anRate (s : Sv) (w : Int32) : Int32 := cif (0 ≤ w ∧ w ≤ 25) (s (11 + nt w)) (-100001)
noncomputable def anForecast (s : Sv) (d : Int32) : Int32 := cif (0 ≤ d ∧ d ≤ 181) (cif (s 0 ≤ d) (FC s (nt d - tN s)) (-100002)) (-100001)
noncomputable def anClosure (s : Sv) (x d : Int32) : Int32 := cif ((0 ≤ x ∧ x < s 2) ∧ (0 ≤ d ∧ d ≤ 300)) (fcS s (nt x) d (182 - tN s) 0) (-100001)
noncomputable def anDraught (s : Sv) (x a b : Int32) : Int32 := cif ((0 ≤ x ∧ x < s 2) ∧ (0 ≤ a ∧ a ≤ 181) ∧ (a ≤ b ∧ b ≤ 181)) (cif (s 0 ≤ a) (gdI (lwF s (nt a) (nt b + 1 - tN s)) (rf s (nt x) 0)) (-100002)) (-100001)
noncomputable def anBest (s : Sv) (a b d : Int32) : Int32 := cif (spanP a b ∧ (0 ≤ d ∧ d ≤ 300)) (cif (s 0 ≤ a) (bV (bO s (nt a) (nt b) d (nrN s))) (-100002)) (-100001)
noncomputable def anExpected (s : Sv) (x w : Int32) : Int32 := cif ((0 ≤ x ∧ x < s 3) ∧ (0 ≤ w ∧ w ≤ 1)) (cif (w = 0) (clI s x) (pf s (nt x) 7 + clI s x * pf s (nt x) 4)) (-100001)
theorem sp14 (w : Int32) : w = 0 ∨ w = 1 ∨ w = 2 ∨ w = 3 ∨ w = 4 ∨ w = 5 ∨ w = 6 ∨ w = 7 ∨ w = 8 ∨ w = 9 ∨ w = 10 ∨ w = 11 ∨ w = 12 ∨ w = 13 ∨ (w.toInt < 0 ∨ 13 < w.toInt) := by
  simp only [iq, tl_0, tl_1, tl_2, tl_3, tl_4, tl_5, tl_6, tl_7, tl_8, tl_9, tl_10, tl_11, tl_12, tl_13]
  omega
theorem sp6 (w : Int32) : w = 0 ∨ w = 1 ∨ w = 2 ∨ w = 3 ∨ w = 4 ∨ w = 5 ∨ (w.toInt < 0 ∨ 5 < w.toInt) := by
  simp only [iq, tl_0, tl_1, tl_2, tl_3, tl_4, tl_5]
  omega
theorem an_lit (s : Sv) (z len : Int32) : anCount s z len 0 = s 0 ∧ anCount s z len 1 = s 1 ∧ anCount s z len 2 = s 2 ∧ anCount s z len 3 = s 3 ∧ anCount s z len 4 = nI (cDt s (npN s)) ∧ anCount s z len 5 = s 193 + s 387 ∧ anCount s z len 6 = z ∧ anCount s z len 7 = len := by
  unfold anCount
  refine ⟨?_, ?_, ?_, ?_, ?_, ?_, ?_, ?_⟩
  · rw [cif_f (by decide), cif_t (by decide)]; rfl
  · rw [cif_f (by decide), cif_t (by decide)]; rfl
  · rw [cif_f (by decide), cif_t (by decide)]; rfl
  · rw [cif_f (by decide), cif_t (by decide)]; rfl
  · rw [cif_f (by decide), cif_f (by decide), cif_t rfl]
  · rw [cif_f (by decide), cif_f (by decide), cif_f (by decide), cif_t rfl]
  · rw [cif_f (by decide), cif_f (by decide), cif_f (by decide), cif_f (by decide), cif_t rfl]
  · rw [cif_f (by decide), cif_f (by decide), cif_f (by decide), cif_f (by decide), cif_f (by decide), cif_t rfl]
theorem an_out {s : Sv} {z len w : Int32} (h : w.toInt < 0 ∨ 13 < w.toInt) : anCount s z len w = -100001 := by
  unfold anCount
  rw [cif_f (by rw [ie, ie, tl_8, tl_13]; omega), cif_f (by rw [ie, ie, tl_0, tl_3]; omega), cif_f (by rw [iq, tl_4]; omega), cif_f (by rw [iq, tl_5]; omega), cif_f (by rw [iq, tl_6]; omega), cif_f (by rw [iq, tl_7]; omega)]
theorem snap2 (s : Sv) : sumN (fun i => s (193 + 194 * i)) 2 = s 193 + s 387 := by
  show 0 + s 193 + s 387 = _
  rw [Int32.zero_add]
set_option maxHeartbeats 4000000 in
set_option maxRecDepth 100000 in
theorem ct_X11_count (G : GT) (V : Mm) {s : Sv} {n z : Nat} {h : Nat → Sv} {B : Int} (hC : CR V s n z h B) (w : Int32) : Ct G mX11_count 4 [adr G 0, .int w] (V) (Ri (anCount s (nI z) (V 529 1) w) V) := by
  refine Ct.of cf_X11_count (List.forall_mem_cons.mpr ⟨rfl, List.forall_mem_cons.mpr ⟨rfl, fun _ h => absurd h List.not_mem_nil⟩⟩) (Nat.le_of_ble_eq_true rfl) (l0 := [some (adr G 0), some (.int w), none]) rfl (fun C hx hq => ?_)
  have hS := hC.2.2.2.2.1
  have hR : Rep V 2 s := hS.1
  have hWS := hC.2.2.2.2.2.1
  have hW := hWS.1
  have hnr := hW.nr
  have hnp := hW.np
  have ht := hW.t
  obtain ⟨a0, a1, a2, a3, a4, a5, a6, a7⟩ := an_lit s (nI z) (V 529 1)
  refine Ew.aload_n hx dX11_count_0 rfl ?_
  refine Ew.getR (1) hx dX11_count_1 fg_RX11_10 rfl rfl ?_
  refine Ew.getR (2) hx dX11_count_4 fg_RX11_34 rfl rfl ?_
  refine Ew.astore_n hx dX11_count_7 (by decide) rfl ?_
  refine Ew.iload_n hx dX11_count_8 rfl ?_
  rcases sp14 w with rfl | rfl | rfl | rfl | rfl | rfl | rfl | rfl | rfl | rfl | rfl | rfl | rfl | rfl | hw
  · refine Ew.tswIn hx dX11_count_9 (by decide) (i := 0) (tgt := 80) rfl rfl ?_
    refine Ew.aload_n hx dX11_count_80 rfl ?_
    refine Ew.getR (3) hx dX11_count_81 fg_RX11_136 rfl rfl ?_
    refine Ew.getI hx dX11_count_84 fg_RX11_140 rfl ?_
    refine Ew.iret hx hq dX11_count_87 rfl ?_
    refine ⟨congrArg (fun z => some (Value.int z)) ?_, rfl⟩
    rw [hR.today, a0]
  · refine Ew.tswIn hx dX11_count_9 (by decide) (i := 1) (tgt := 88) rfl rfl ?_
    refine Ew.aload_n hx dX11_count_88 rfl ?_
    refine Ew.getR (3) hx dX11_count_89 fg_RX11_136 rfl rfl ?_
    refine Ew.getI hx dX11_count_92 fg_RX11_145 rfl ?_
    refine Ew.iret hx hq dX11_count_95 rfl ?_
    refine ⟨congrArg (fun z => some (Value.int z)) ?_, rfl⟩
    rw [hR.level, a1]
  · refine Ew.tswIn hx dX11_count_9 (by decide) (i := 2) (tgt := 96) rfl rfl ?_
    refine Ew.aload_n hx dX11_count_96 rfl ?_
    refine Ew.getI hx dX11_count_97 fg_RX11_148 rfl ?_
    refine Ew.iret hx hq dX11_count_100 rfl ?_
    refine ⟨congrArg (fun z => some (Value.int z)) ?_, rfl⟩
    rw [hR.nrs, a2]
  · refine Ew.tswIn hx dX11_count_9 (by decide) (i := 3) (tgt := 101) rfl rfl ?_
    refine Ew.aload_n hx dX11_count_101 rfl ?_
    refine Ew.getI hx dX11_count_102 fg_RX11_151 rfl ?_
    refine Ew.iret hx hq dX11_count_105 rfl ?_
    refine ⟨congrArg (fun z => some (Value.int z)) ?_, rfl⟩
    rw [hR.nps, a3]
  · refine Ew.tswIn hx dX11_count_9 (by decide) (i := 4) (tgt := 106) rfl rfl ?_
    refine Ew.aload_n hx dX11_count_106 rfl ?_
    refine Ew.callV2 (y' := mX7_permitsToCome) hx dX11_count_107 ml_RX11_154 cf_X7_permitsToCome cv_X7_permitsToCome (ct_X7_permitsToCome G V hR hW) rfl oc_2 rfl (by decide) (by decide) rfl (Nat.le_of_ble_eq_true rfl) ?_
    rintro _ V9 ⟨rfl, h9⟩; subst V9
    refine Ew.iret hx hq dX11_count_110 rfl ?_
    refine ⟨congrArg (fun z => some (Value.int z)) ?_, rfl⟩
    rw [cTo_sum hW _ (Nat.le_refl _), a4]
  · refine Ew.tswIn hx dX11_count_9 (by decide) (i := 5) (tgt := 111) rfl rfl ?_
    refine Ew.aload_n hx dX11_count_111 rfl ?_
    refine Ew.getR (1) hx dX11_count_112 fg_RX11_10 rfl rfl ?_
    refine Ew.callV2 (y' := mX8_snapshots) hx dX11_count_115 ml_RX11_157 cf_X8_snapshots cv_X8_snapshots (ct_X8_snapshots G V hS hWS) rfl oc_1 rfl (by decide) (by decide) rfl (Nat.le_of_ble_eq_true rfl) ?_
    rintro _ V9 ⟨rfl, h9⟩; subst V9
    refine Ew.iret hx hq dX11_count_118 rfl ?_
    refine ⟨congrArg (fun z => some (Value.int z)) ?_, rfl⟩
    rw [snap2, a5]
  · refine Ew.tswIn hx dX11_count_9 (by decide) (i := 6) (tgt := 119) rfl rfl ?_
    refine Ew.aload_n hx dX11_count_119 rfl ?_
    refine Ew.getR (76) hx dX11_count_120 fg_RX11_19 rfl rfl ?_
    refine Ew.getI hx dX11_count_123 fg_RX11_92 rfl ?_
    refine Ew.iret hx hq dX11_count_126 rfl ?_
    refine ⟨congrArg (fun z => some (Value.int z)) ?_, rfl⟩
    rw [hC.2.2.1, a6]
  · refine Ew.tswIn hx dX11_count_9 (by decide) (i := 7) (tgt := 127) rfl rfl ?_
    refine Ew.aload_n hx dX11_count_127 rfl ?_
    refine Ew.getR (528) hx dX11_count_128 fg_RX11_26 rfl rfl ?_
    refine Ew.getR (529) hx dX11_count_131 fg_RX11_112 rfl rfl ?_
    refine Ew.getI hx dX11_count_134 fg_RX11_160 rfl ?_
    refine Ew.iret hx hq dX11_count_137 rfl ?_
    refine ⟨congrArg (fun z => some (Value.int z)) ?_, rfl⟩
    exact a7.symm
  · refine Ew.tswIn hx dX11_count_9 (by decide) (i := 8) (tgt := 138) rfl rfl ?_
    refine Ew.aload_n hx dX11_count_138 rfl ?_
    refine Ew.getR (5) hx dX11_count_139 fg_RX11_58 rfl rfl ?_
    refine Ew.iload_n hx dX11_count_142 rfl ?_
    refine Ew.bipush hx dX11_count_143 k_bipush_7 ?_
    refine Ew.isub hx dX11_count_145 ?_
    refine Ew.callV2 (y' := mX2_amountFor) hx dX11_count_146 ml_RX11_163 cf_X2_amountFor cv_X2_amountFor (ct_X2_amountFor G V 0 _ (by decide) rfl) rfl oc_5 rfl (by decide) (by decide) rfl (Nat.le_of_ble_eq_true rfl) ?_
    rintro _ V9 ⟨rfl, h9⟩; subst V9
    refine Ew.iret hx hq dX11_count_149 rfl ?_
    refine ⟨congrArg (fun z => some (Value.int z)) ?_, rfl⟩
    rw [hR.amt (by decide)]
    unfold anCount
    rw [cif_t (by decide)]
    rfl
  · refine Ew.tswIn hx dX11_count_9 (by decide) (i := 9) (tgt := 138) rfl rfl ?_
    refine Ew.aload_n hx dX11_count_138 rfl ?_
    refine Ew.getR (5) hx dX11_count_139 fg_RX11_58 rfl rfl ?_
    refine Ew.iload_n hx dX11_count_142 rfl ?_
    refine Ew.bipush hx dX11_count_143 k_bipush_7 ?_
    refine Ew.isub hx dX11_count_145 ?_
    refine Ew.callV2 (y' := mX2_amountFor) hx dX11_count_146 ml_RX11_163 cf_X2_amountFor cv_X2_amountFor (ct_X2_amountFor G V 1 _ (by decide) rfl) rfl oc_5 rfl (by decide) (by decide) rfl (Nat.le_of_ble_eq_true rfl) ?_
    rintro _ V9 ⟨rfl, h9⟩; subst V9
    refine Ew.iret hx hq dX11_count_149 rfl ?_
    refine ⟨congrArg (fun z => some (Value.int z)) ?_, rfl⟩
    rw [hR.amt (by decide)]
    unfold anCount
    rw [cif_t (by decide)]
    rfl
  · refine Ew.tswIn hx dX11_count_9 (by decide) (i := 10) (tgt := 138) rfl rfl ?_
    refine Ew.aload_n hx dX11_count_138 rfl ?_
    refine Ew.getR (5) hx dX11_count_139 fg_RX11_58 rfl rfl ?_
    refine Ew.iload_n hx dX11_count_142 rfl ?_
    refine Ew.bipush hx dX11_count_143 k_bipush_7 ?_
    refine Ew.isub hx dX11_count_145 ?_
    refine Ew.callV2 (y' := mX2_amountFor) hx dX11_count_146 ml_RX11_163 cf_X2_amountFor cv_X2_amountFor (ct_X2_amountFor G V 2 _ (by decide) rfl) rfl oc_5 rfl (by decide) (by decide) rfl (Nat.le_of_ble_eq_true rfl) ?_
    rintro _ V9 ⟨rfl, h9⟩; subst V9
    refine Ew.iret hx hq dX11_count_149 rfl ?_
    refine ⟨congrArg (fun z => some (Value.int z)) ?_, rfl⟩
    rw [hR.amt (by decide)]
    unfold anCount
    rw [cif_t (by decide)]
    rfl
  · refine Ew.tswIn hx dX11_count_9 (by decide) (i := 11) (tgt := 150) rfl rfl ?_
    refine Ew.aload_n hx dX11_count_150 rfl ?_
    refine Ew.getR (5) hx dX11_count_151 fg_RX11_58 rfl rfl ?_
    refine Ew.iload_n hx dX11_count_154 rfl ?_
    refine Ew.bipush hx dX11_count_155 k_bipush_10 ?_
    refine Ew.isub hx dX11_count_157 ?_
    refine Ew.callV2 (y' := mX2_timesFor) hx dX11_count_158 ml_RX11_166 cf_X2_timesFor cv_X2_timesFor (ct_X2_timesFor G V 0 _ (by decide) rfl) rfl oc_5 rfl (by decide) (by decide) rfl (Nat.le_of_ble_eq_true rfl) ?_
    rintro _ V9 ⟨rfl, h9⟩; subst V9
    refine Ew.iret hx hq dX11_count_161 rfl ?_
    refine ⟨congrArg (fun z => some (Value.int z)) ?_, rfl⟩
    rw [hR.tms (by decide)]
    unfold anCount
    rw [cif_t (by decide)]
    rfl
  · refine Ew.tswIn hx dX11_count_9 (by decide) (i := 12) (tgt := 150) rfl rfl ?_
    refine Ew.aload_n hx dX11_count_150 rfl ?_
    refine Ew.getR (5) hx dX11_count_151 fg_RX11_58 rfl rfl ?_
    refine Ew.iload_n hx dX11_count_154 rfl ?_
    refine Ew.bipush hx dX11_count_155 k_bipush_10 ?_
    refine Ew.isub hx dX11_count_157 ?_
    refine Ew.callV2 (y' := mX2_timesFor) hx dX11_count_158 ml_RX11_166 cf_X2_timesFor cv_X2_timesFor (ct_X2_timesFor G V 1 _ (by decide) rfl) rfl oc_5 rfl (by decide) (by decide) rfl (Nat.le_of_ble_eq_true rfl) ?_
    rintro _ V9 ⟨rfl, h9⟩; subst V9
    refine Ew.iret hx hq dX11_count_161 rfl ?_
    refine ⟨congrArg (fun z => some (Value.int z)) ?_, rfl⟩
    rw [hR.tms (by decide)]
    unfold anCount
    rw [cif_t (by decide)]
    rfl
  · refine Ew.tswIn hx dX11_count_9 (by decide) (i := 13) (tgt := 150) rfl rfl ?_
    refine Ew.aload_n hx dX11_count_150 rfl ?_
    refine Ew.getR (5) hx dX11_count_151 fg_RX11_58 rfl rfl ?_
    refine Ew.iload_n hx dX11_count_154 rfl ?_
    refine Ew.bipush hx dX11_count_155 k_bipush_10 ?_
    refine Ew.isub hx dX11_count_157 ?_
    refine Ew.callV2 (y' := mX2_timesFor) hx dX11_count_158 ml_RX11_166 cf_X2_timesFor cv_X2_timesFor (ct_X2_timesFor G V 2 _ (by decide) rfl) rfl oc_5 rfl (by decide) (by decide) rfl (Nat.le_of_ble_eq_true rfl) ?_
    rintro _ V9 ⟨rfl, h9⟩; subst V9
    refine Ew.iret hx hq dX11_count_161 rfl ?_
    refine ⟨congrArg (fun z => some (Value.int z)) ?_, rfl⟩
    rw [hR.tms (by decide)]
    unfold anCount
    rw [cif_t (by decide)]
    rfl
  · refine Ew.tswOut hx dX11_count_9 (hw) (tgt := 162) rfl ?_
    refine Ew.ldc hx dX11_count_162 kn_RX11_111 ?_
    refine Ew.iret hx hq dX11_count_164 rfl ?_
    refine ⟨congrArg (fun z => some (Value.int z)) ?_, rfl⟩
    exact (an_out hw).symm
set_option maxHeartbeats 4000000 in
set_option maxRecDepth 100000 in
theorem ct_X11_ramp (G : GT) (V : Mm) {s : Sv} {n z : Nat} {h : Nat → Sv} {B : Int} (hC : CR V s n z h B) (x w : Int32) : Ct G mX11_ramp 4 [adr G 0, .int x, .int w] (V) (Ri (anRamp s x w) V) := by
  refine Ct.of cf_X11_ramp (List.forall_mem_cons.mpr ⟨rfl, List.forall_mem_cons.mpr ⟨rfl, List.forall_mem_cons.mpr ⟨rfl, fun _ h => absurd h List.not_mem_nil⟩⟩⟩) (Nat.le_of_ble_eq_true rfl) (l0 := [some (adr G 0), some (.int x), some (.int w), none, none]) rfl (fun C hx hq => ?_)
  have hS := hC.2.2.2.2.1
  have hR : Rep V 2 s := hS.1
  have hWS := hC.2.2.2.2.2.1
  have hW := hWS.1
  have hnr := hW.nr
  have hnp := hW.np
  have ht := hW.t
  refine Ew.aload_n hx dX11_ramp_0 rfl ?_
  refine Ew.getR (1) hx dX11_ramp_1 fg_RX11_10 rfl rfl ?_
  refine Ew.getR (2) hx dX11_ramp_4 fg_RX11_34 rfl rfl ?_
  refine Ew.astore_n hx dX11_ramp_7 (by decide) rfl ?_
  refine Ew.aload_n hx dX11_ramp_8 rfl ?_
  refine Ew.iload_n hx dX11_ramp_9 rfl ?_
  refine Ew.callV2 (y' := mX7_hasRamp) hx dX11_ramp_10 ml_RX11_169 cf_X7_hasRamp cv_X7_hasRamp (ct_X7_hasRamp G V _ hR) rfl oc_2 rfl (by decide) (by decide) rfl (Nat.le_of_ble_eq_true rfl) ?_
  rintro _ V9 ⟨rfl, h9⟩; subst V9
  refine Ew.ifne_b hx (tgt := 19) dX11_ramp_13 rfl (fun h13 => ?_) (fun h13 => ?_)
  · obtain ⟨r, hxr, hr⟩ := hW.rix h13
    have hxn : nt x = r := by rw [hxr, nt_nI (by omega)]
    have ok : anRamp s x w = _ := cif_t h13
    rw [hxn] at ok
    refine Ew.aload_n hx dX11_ramp_19 rfl ?_
    refine Ew.getR (8) hx dX11_ramp_20 fg_RX11_173 rfl rfl ?_
    refine Ew.iload_n hx dX11_ramp_23 rfl ?_
    refine Ew.aldq (10 + r) hx dX11_ramp_24 rg_7 rfl (hxr) (by omega) (by omega) ?_
    refine Ew.astore hx dX11_ramp_25 (by decide) rfl ?_
    refine Ew.iload_n hx dX11_ramp_27 rfl ?_
    rcases sp6 w with hw | hw | hw | hw | hw | hw | hw
    · refine Ew.tswIn hx dX11_ramp_28 (by rw [hw]; decide) (i := 0) (tgt := 68) rfl rfl ?_
      refine Ew.aload hx dX11_ramp_68 rfl ?_
      refine Ew.getI hx dX11_ramp_70 fg_RX11_177 (kd_rm (by omega)) ?_
      refine Ew.iret hx hq dX11_ramp_73 rfl ?_
      refine ⟨congrArg (fun z => some (Value.int z)) ?_, rfl⟩
      rw [hR.rm hr (by omega) (by decide), ok, cif_t (by rw [hw]; decide), hw]
      rfl
    · refine Ew.tswIn hx dX11_ramp_28 (by rw [hw]; decide) (i := 1) (tgt := 74) rfl rfl ?_
      refine Ew.aload hx dX11_ramp_74 rfl ?_
      refine Ew.getI hx dX11_ramp_76 fg_RX11_182 (kd_rm (by omega)) ?_
      refine Ew.iret hx hq dX11_ramp_79 rfl ?_
      refine ⟨congrArg (fun z => some (Value.int z)) ?_, rfl⟩
      rw [hR.rm hr (by omega) (by decide), ok, cif_t (by rw [hw]; decide), hw]
      rfl
    · refine Ew.tswIn hx dX11_ramp_28 (by rw [hw]; decide) (i := 2) (tgt := 80) rfl rfl ?_
      refine Ew.aload hx dX11_ramp_80 rfl ?_
      refine Ew.getI hx dX11_ramp_82 fg_RX11_185 (kd_rm (by omega)) ?_
      refine Ew.iret hx hq dX11_ramp_85 rfl ?_
      refine ⟨congrArg (fun z => some (Value.int z)) ?_, rfl⟩
      rw [hR.rm hr (by omega) (by decide), ok, cif_t (by rw [hw]; decide), hw]
      rfl
    · refine Ew.tswIn hx dX11_ramp_28 (by rw [hw]; decide) (i := 3) (tgt := 86) rfl rfl ?_
      refine Ew.aload_n hx dX11_ramp_86 rfl ?_
      refine Ew.iload_n hx dX11_ramp_87 rfl ?_
      refine Ew.callV2 (y' := mX7_permitsToComeFor) hx dX11_ramp_88 ml_RX11_188 cf_X7_permitsToComeFor cv_X7_permitsToComeFor (ct_X7_permitsToComeFor G V hR hW x) rfl oc_2 rfl (by decide) (by decide) rfl (Nat.le_of_ble_eq_true rfl) ?_
      rintro _ V9 ⟨rfl, h9⟩; subst V9
      refine Ew.iret hx hq dX11_ramp_91 rfl ?_
      refine ⟨congrArg (fun z => some (Value.int z)) ?_, rfl⟩
      rw [ok, cif_f (by rw [hw]; decide), cif_t hw]
    · refine Ew.tswIn hx dX11_ramp_28 (by rw [hw]; decide) (i := 4) (tgt := 92) rfl rfl ?_
      refine Ew.aload_n hx dX11_ramp_92 rfl ?_
      refine Ew.iload_n hx dX11_ramp_93 rfl ?_
      refine Ew.aload_n hx dX11_ramp_94 rfl ?_
      refine Ew.getR (3) hx dX11_ramp_95 fg_RX11_136 rfl rfl ?_
      refine Ew.getI hx dX11_ramp_98 fg_RX11_140 rfl ?_
      rw [hR.today, ht.1]
      refine Ew.callV2 (y' := mX7_permitsOn) hx dX11_ramp_101 ml_RX11_191 cf_X7_permitsOn cv_X7_permitsOn (ct_X7_permitsOn G V hR hW x (tN s)) rfl oc_2 rfl (by decide) (by decide) rfl (Nat.le_of_ble_eq_true rfl) ?_
      rintro _ V9 ⟨rfl, h9⟩; subst V9
      refine Ew.iret hx hq dX11_ramp_104 rfl ?_
      refine ⟨congrArg (fun z => some (Value.int z)) ?_, rfl⟩
      rw [ok, cif_f (by rw [hw]; decide), cif_f (by rw [hw]; decide), cif_t hw]
    · refine Ew.tswIn hx dX11_ramp_28 (by rw [hw]; decide) (i := 5) (tgt := 105) rfl rfl ?_
      refine Ew.aload hx dX11_ramp_105 rfl ?_
      refine Ew.aload_n hx dX11_ramp_107 rfl ?_
      refine Ew.getR (3) hx dX11_ramp_108 fg_RX11_136 rfl rfl ?_
      refine Ew.getI hx dX11_ramp_111 fg_RX11_145 rfl ?_
      refine Ew.callV2 (y' := mX6_greatestDraught) hx dX11_ramp_114 ml_RX11_194 cf_X6_greatestDraught cv_X6_greatestDraught (ct_X6_greatestDraught G V (10 + r) _ (kd_rm (by omega))) (kd_rm (by omega)) oc_9 rfl (by decide) (by decide) rfl (Nat.le_of_ble_eq_true rfl) ?_
      rintro _ V9 ⟨rfl, h9⟩; subst V9
      refine Ew.iret hx hq dX11_ramp_117 rfl ?_
      refine ⟨congrArg (fun z => some (Value.int z)) ?_, rfl⟩
      rw [hR.rm hr (by omega) (by decide), hR.level, ok, cif_f (by rw [hw]; decide), cif_f (by rw [hw]; decide), cif_f (by rw [hw]; decide), cif_t hw]
    · refine Ew.tswOut hx dX11_ramp_28 (hw) (tgt := 118) rfl ?_
      refine Ew.ldc hx dX11_ramp_118 kn_RX11_111 ?_
      refine Ew.iret hx hq dX11_ramp_120 rfl ?_
      refine ⟨congrArg (fun z => some (Value.int z)) ?_, rfl⟩
      rw [ok, cif_f (by rw [ie, ie, tl_0, tl_2]; omega), cif_f (by rw [iq, tl_3]; omega), cif_f (by rw [iq, tl_4]; omega), cif_f (by rw [iq, tl_5]; omega)]
  · have ec : anRamp s x w = -100001 := cif_f h13
    refine Ew.ldc hx dX11_ramp_16 kn_RX11_111 ?_
    refine Ew.iret hx hq dX11_ramp_18 rfl ?_
    rw [ec]
    exact ⟨rfl, rfl⟩
set_option maxHeartbeats 4000000 in
set_option maxRecDepth 100000 in
theorem ct_X11_permit (G : GT) (V : Mm) {s : Sv} {n z : Nat} {h : Nat → Sv} {B : Int} (hC : CR V s n z h B) (x w : Int32) : Ct G mX11_permit 2 [adr G 0, .int x, .int w] (V) (Ri (anPermit s x w) V) := by
  refine Ct.of cf_X11_permit (List.forall_mem_cons.mpr ⟨rfl, List.forall_mem_cons.mpr ⟨rfl, List.forall_mem_cons.mpr ⟨rfl, fun _ h => absurd h List.not_mem_nil⟩⟩⟩) (Nat.le_of_ble_eq_true rfl) (l0 := [some (adr G 0), some (.int x), some (.int w), none]) rfl (fun C hx hq => ?_)
  have hS := hC.2.2.2.2.1
  have hR : Rep V 2 s := hS.1
  have hWS := hC.2.2.2.2.2.1
  have hW := hWS.1
  have hnr := hW.nr
  have hnp := hW.np
  have ht := hW.t
  refine Ew.aload_n hx dX11_permit_0 rfl ?_
  refine Ew.getR (1) hx dX11_permit_1 fg_RX11_10 rfl rfl ?_
  refine Ew.getR (2) hx dX11_permit_4 fg_RX11_34 rfl rfl ?_
  refine Ew.astore_n hx dX11_permit_7 (by decide) rfl ?_
  refine Ew.aload_n hx dX11_permit_8 rfl ?_
  refine Ew.iload_n hx dX11_permit_9 rfl ?_
  refine Ew.callV2 (y' := mX7_hasPermit) hx dX11_permit_10 ml_RX11_197 cf_X7_hasPermit cv_X7_hasPermit (ct_X7_hasPermit G V _ hR) rfl oc_2 rfl (by decide) (by decide) rfl (Nat.le_of_ble_eq_true rfl) ?_
  rintro _ V9 ⟨rfl, h9⟩; subst V9
  refine Ew.ifne_b hx (tgt := 19) dX11_permit_13 rfl (fun h13 => ?_) (fun h13 => ?_)
  · obtain ⟨p, hxp, hp⟩ := hW.pix h13
    have hxn : nt x = p := by rw [hxp, nt_nI (by omega)]
    have ok : anPermit s x w = _ := cif_t h13
    rw [hxn] at ok
    refine Ew.aload_n hx dX11_permit_19 rfl ?_
    refine Ew.getR (9) hx dX11_permit_20 fg_RX11_200 rfl rfl ?_
    refine Ew.iload_n hx dX11_permit_23 rfl ?_
    refine Ew.aldq (14 + p) hx dX11_permit_24 rg_8 rfl (hxp) (by omega) (by omega) ?_
    refine Ew.iload_n hx dX11_permit_25 rfl ?_
    refine Ew.aload_n hx dX11_permit_26 rfl ?_
    refine Ew.getR (3) hx dX11_permit_27 fg_RX11_136 rfl rfl ?_
    refine Ew.getI hx dX11_permit_30 fg_RX11_140 rfl ?_
    rw [hR.today]
    refine Ew.callV2 (y' := mX4_property) hx dX11_permit_33 ml_RX11_204 cf_X4_property cv_X4_property (ct_X4_property G V (14 + p) _ _ (kd_pm (by omega)) (by rw [hR.pm hp (by omega) (by decide)]; exact hW.c01 hp)) (kd_pm (by omega)) oc_10 rfl (by decide) (by decide) rfl (Nat.le_of_ble_eq_true rfl) ?_
    rintro _ V9 ⟨rfl, h9⟩; subst V9
    refine Ew.iret hx hq dX11_permit_36 rfl ?_
    refine ⟨congrArg (fun z => some (Value.int z)) ?_, rfl⟩
    rw [prI_c (hR.row hW hp), ok]
  · have ec : anPermit s x w = -100001 := cif_f h13
    refine Ew.ldc hx dX11_permit_16 kn_RX11_111 ?_
    refine Ew.iret hx hq dX11_permit_18 rfl ?_
    rw [ec]
    exact ⟨rfl, rfl⟩
set_option maxHeartbeats 4000000 in
set_option maxRecDepth 100000 in
theorem ct_X11_money (G : GT) (V : Mm) {s : Sv} {n z : Nat} {h : Nat → Sv} {B : Int} (hC : CR V s n z h B) (w : Int32) : Ct G mX11_money 4 [adr G 0, .int w] (V) (Ri (anMoney s w) V) := by
  refine Ct.of cf_X11_money (List.forall_mem_cons.mpr ⟨rfl, List.forall_mem_cons.mpr ⟨rfl, fun _ h => absurd h List.not_mem_nil⟩⟩) (Nat.le_of_ble_eq_true rfl) (l0 := [some (adr G 0), some (.int w)]) rfl (fun C hx hq => ?_)
  have hS := hC.2.2.2.2.1
  have hR : Rep V 2 s := hS.1
  have hWS := hC.2.2.2.2.2.1
  have hW := hWS.1
  have hnr := hW.nr
  have hnp := hW.np
  have ht := hW.t
  refine Ew.iload_n hx dX11_money_0 rfl ?_
  rcases sp6 w with hw | hw | hw | hw | hw | hw | hw
  · refine Ew.tswIn hx dX11_money_1 (by rw [hw]; decide) (i := 0) (tgt := 40) rfl rfl ?_
    refine Ew.aload_n hx dX11_money_40 rfl ?_
    refine Ew.getR (1) hx dX11_money_41 fg_RX11_10 rfl rfl ?_
    refine Ew.getR (2) hx dX11_money_44 fg_RX11_34 rfl rfl ?_
    refine Ew.iconst hx dX11_money_47 k_iconst_5 ?_
    refine Ew.callV2 (y' := mX7_sumOf) hx dX11_money_48 ml_RX11_209 cf_X7_sumOf cv_X7_sumOf (ct_X7_sumOf G V hR hW _) rfl oc_2 rfl (by decide) (by decide) rfl (Nat.le_of_ble_eq_true rfl) ?_
    rintro _ V9 ⟨rfl, h9⟩; subst V9
    refine Ew.iret hx hq dX11_money_51 rfl ?_
    refine ⟨congrArg (fun z => some (Value.int z)) ?_, rfl⟩
    unfold anMoney
    rw [cif_t (by rw [hw]; decide), hw]
    exact sumN_c _ (fun p hp => (prI_c (hR.row hW hp)).trans rfl)
  · refine Ew.tswIn hx dX11_money_1 (by rw [hw]; decide) (i := 1) (tgt := 52) rfl rfl ?_
    refine Ew.aload_n hx dX11_money_52 rfl ?_
    refine Ew.getR (1) hx dX11_money_53 fg_RX11_10 rfl rfl ?_
    refine Ew.getR (2) hx dX11_money_56 fg_RX11_34 rfl rfl ?_
    refine Ew.bipush hx dX11_money_59 k_bipush_6 ?_
    refine Ew.callV2 (y' := mX7_sumOf) hx dX11_money_61 ml_RX11_209 cf_X7_sumOf cv_X7_sumOf (ct_X7_sumOf G V hR hW _) rfl oc_2 rfl (by decide) (by decide) rfl (Nat.le_of_ble_eq_true rfl) ?_
    rintro _ V9 ⟨rfl, h9⟩; subst V9
    refine Ew.iret hx hq dX11_money_64 rfl ?_
    refine ⟨congrArg (fun z => some (Value.int z)) ?_, rfl⟩
    unfold anMoney
    rw [cif_t (by rw [hw]; decide), hw]
    exact sumN_c _ (fun p hp => (prI_c (hR.row hW hp)).trans rfl)
  · refine Ew.tswIn hx dX11_money_1 (by rw [hw]; decide) (i := 2) (tgt := 65) rfl rfl ?_
    refine Ew.aload_n hx dX11_money_65 rfl ?_
    refine Ew.getR (1) hx dX11_money_66 fg_RX11_10 rfl rfl ?_
    refine Ew.getR (2) hx dX11_money_69 fg_RX11_34 rfl rfl ?_
    refine Ew.bipush hx dX11_money_72 k_bipush_7 ?_
    refine Ew.callV2 (y' := mX7_sumOf) hx dX11_money_74 ml_RX11_209 cf_X7_sumOf cv_X7_sumOf (ct_X7_sumOf G V hR hW _) rfl oc_2 rfl (by decide) (by decide) rfl (Nat.le_of_ble_eq_true rfl) ?_
    rintro _ V9 ⟨rfl, h9⟩; subst V9
    refine Ew.iret hx hq dX11_money_77 rfl ?_
    refine ⟨congrArg (fun z => some (Value.int z)) ?_, rfl⟩
    unfold anMoney
    rw [cif_t (by rw [hw]; decide), hw]
    exact sumN_c _ (fun p hp => (prI_c (hR.row hW hp)).trans rfl)
  · refine Ew.tswIn hx dX11_money_1 (by rw [hw]; decide) (i := 3) (tgt := 78) rfl rfl ?_
    refine Ew.aload_n hx dX11_money_78 rfl ?_
    refine Ew.getR (1) hx dX11_money_79 fg_RX11_10 rfl rfl ?_
    refine Ew.getR (2) hx dX11_money_82 fg_RX11_34 rfl rfl ?_
    refine Ew.bipush hx dX11_money_85 k_bipush_8 ?_
    refine Ew.callV2 (y' := mX7_sumOf) hx dX11_money_87 ml_RX11_209 cf_X7_sumOf cv_X7_sumOf (ct_X7_sumOf G V hR hW _) rfl oc_2 rfl (by decide) (by decide) rfl (Nat.le_of_ble_eq_true rfl) ?_
    rintro _ V9 ⟨rfl, h9⟩; subst V9
    refine Ew.iret hx hq dX11_money_90 rfl ?_
    refine ⟨congrArg (fun z => some (Value.int z)) ?_, rfl⟩
    unfold anMoney
    rw [cif_t (by rw [hw]; decide), hw]
    exact sumN_c _ (fun p hp => (prI_c (hR.row hW hp)).trans rfl)
  · refine Ew.tswIn hx dX11_money_1 (by rw [hw]; decide) (i := 4) (tgt := 91) rfl rfl ?_
    refine Ew.aload_n hx dX11_money_91 rfl ?_
    refine Ew.getR (1) hx dX11_money_92 fg_RX11_10 rfl rfl ?_
    refine Ew.getR (2) hx dX11_money_95 fg_RX11_34 rfl rfl ?_
    refine Ew.callV2 (y' := mX7_feesToCome) hx dX11_money_98 ml_RX11_212 cf_X7_feesToCome cv_X7_feesToCome (ct_X7_feesToCome G V hR hW) rfl oc_2 rfl (by decide) (by decide) rfl (Nat.le_of_ble_eq_true rfl) ?_
    rintro _ V9 ⟨rfl, h9⟩; subst V9
    refine Ew.iret hx hq dX11_money_101 rfl ?_
    refine ⟨congrArg (fun z => some (Value.int z)) ?_, rfl⟩
    unfold anMoney
    rw [cif_f (by rw [hw]; decide), cif_t hw]
  · refine Ew.tswIn hx dX11_money_1 (by rw [hw]; decide) (i := 5) (tgt := 102) rfl rfl ?_
    refine Ew.aload_n hx dX11_money_102 rfl ?_
    refine Ew.getR (1) hx dX11_money_103 fg_RX11_10 rfl rfl ?_
    refine Ew.getR (2) hx dX11_money_106 fg_RX11_34 rfl rfl ?_
    refine Ew.getR (5) hx dX11_money_109 fg_RX11_58 rfl rfl ?_
    refine Ew.getI hx dX11_money_112 fg_RX11_215 rfl ?_
    refine Ew.iret hx hq dX11_money_115 rfl ?_
    refine ⟨congrArg (fun z => some (Value.int z)) ?_, rfl⟩
    unfold anMoney
    rw [cif_f (by rw [hw]; decide), cif_f (by rw [hw]; decide), cif_t hw]
    exact hR.tot
  · refine Ew.tswOut hx dX11_money_1 (hw) (tgt := 116) rfl ?_
    refine Ew.ldc hx dX11_money_116 kn_RX11_111 ?_
    refine Ew.iret hx hq dX11_money_118 rfl ?_
    refine ⟨congrArg (fun z => some (Value.int z)) ?_, rfl⟩
    unfold anMoney
    rw [cif_f (by rw [ie, ie, tl_0, tl_3]; omega), cif_f (by rw [iq, tl_4]; omega), cif_f (by rw [iq, tl_5]; omega)]
set_option maxHeartbeats 4000000 in
set_option maxRecDepth 100000 in
theorem ct_X11_rate (G : GT) (V : Mm) {s : Sv} {n z : Nat} {h : Nat → Sv} {B : Int} (hC : CR V s n z h B) (w : Int32) : Ct G mX11_rate 1 [adr G 0, .int w] (V) (Ri (anRate s w) V) := by
  refine Ct.of cf_X11_rate (List.forall_mem_cons.mpr ⟨rfl, List.forall_mem_cons.mpr ⟨rfl, fun _ h => absurd h List.not_mem_nil⟩⟩) (Nat.le_of_ble_eq_true rfl) (l0 := [some (adr G 0), some (.int w)]) rfl (fun C hx hq => ?_)
  have hS := hC.2.2.2.2.1
  have hR : Rep V 2 s := hS.1
  have hWS := hC.2.2.2.2.2.1
  have hW := hWS.1
  have hnr := hW.nr
  have hnp := hW.np
  have ht := hW.t
  refine Ew.iload_n hx dX11_rate_0 rfl ?_
  refine Ew.iconst hx dX11_rate_1 k_iconst_0 ?_
  refine Ew.bipush hx dX11_rate_2 k_bipush_25 ?_
  refine Ew.callS (y' := mX11_isWithin) hx dX11_rate_4 ml_RX11_107 cf_X11_isWithin cs_X11_isWithin (ct_X11_isWithin G _ _ _ _) rfl (by decide) (by decide) rfl (Nat.le_of_ble_eq_true rfl) ?_
  rintro _ V9 ⟨rfl, h9⟩; subst V9
  refine Ew.ifeq_b hx (tgt := 28) dX11_rate_7 rfl (fun h7 => ?_) (fun h7 => ?_)
  · have ec : anRate s w = -100001 := cif_f h7
    refine Ew.ldc hx dX11_rate_28 kn_RX11_111 ?_
    refine Ew.iret hx hq dX11_rate_30 rfl ?_
    refine ⟨congrArg (fun z => some (Value.int z)) ?_, rfl⟩
    rw [ec]
    try rw [hR.rate hi]
  · have ec : anRate s w = _ := cif_t h7
    have hw2 := h7
    rw [ie, ie, tl_0, tl_25] at hw2
    have hi : nt w < 26 := by unfold nt; omega
    have ew : w = nI (nt w) := ofNI hw2.1
    refine Ew.aload_n hx dX11_rate_10 rfl ?_
    refine Ew.getR (1) hx dX11_rate_11 fg_RX11_10 rfl rfl ?_
    refine Ew.getR (2) hx dX11_rate_14 fg_RX11_34 rfl rfl ?_
    refine Ew.getR (3) hx dX11_rate_17 fg_RX11_136 rfl rfl ?_
    refine Ew.getR (4) hx dX11_rate_20 fg_RX11_218 rfl rfl ?_
    refine Ew.iload_n hx dX11_rate_23 rfl ?_
    refine Ew.iald (i := nt w) hx dX11_rate_24 ag_4 rfl (ew) (hi) ?_
    refine Ew.goto hx (tgt := 30) dX11_rate_25 rfl ?_
    refine Ew.iret hx hq dX11_rate_30 rfl ?_
    refine ⟨congrArg (fun z => some (Value.int z)) ?_, rfl⟩
    rw [ec]
    try rw [hR.rate hi]
set_option maxHeartbeats 4000000 in
set_option maxRecDepth 100000 in
theorem ct_X11_forecast (G : GT) (V : Mm) {s : Sv} {n z : Nat} {h : Nat → Sv} {B : Int} (hC : CR V s n z h B) (d : Int32) : Ct G mX11_forecast 2 [adr G 0, .int d] (V) (Ri (anForecast s d) V) := by
  refine Ct.of cf_X11_forecast (List.forall_mem_cons.mpr ⟨rfl, List.forall_mem_cons.mpr ⟨rfl, fun _ h => absurd h List.not_mem_nil⟩⟩) (Nat.le_of_ble_eq_true rfl) (l0 := [some (adr G 0), some (.int d), none]) rfl (fun C hx hq => ?_)
  have hS := hC.2.2.2.2.1
  have hR : Rep V 2 s := hS.1
  have hWS := hC.2.2.2.2.2.1
  have hW := hWS.1
  have hnr := hW.nr
  have hnp := hW.np
  have ht := hW.t
  refine Ew.aload_n hx dX11_forecast_0 rfl ?_
  refine Ew.getR (1) hx dX11_forecast_1 fg_RX11_10 rfl rfl ?_
  refine Ew.getR (2) hx dX11_forecast_4 fg_RX11_34 rfl rfl ?_
  refine Ew.getR (3) hx dX11_forecast_7 fg_RX11_136 rfl rfl ?_
  refine Ew.astore_n hx dX11_forecast_10 (by decide) rfl ?_
  refine Ew.iload_n hx dX11_forecast_11 rfl ?_
  refine Ew.iconst hx dX11_forecast_12 k_iconst_0 ?_
  refine Ew.sipush hx dX11_forecast_13 k_sipush_181 ?_
  refine Ew.callS (y' := mX11_isWithin) hx dX11_forecast_16 ml_RX11_107 cf_X11_isWithin cs_X11_isWithin (ct_X11_isWithin G _ _ _ _) rfl (by decide) (by decide) rfl (Nat.le_of_ble_eq_true rfl) ?_
  rintro _ V9 ⟨rfl, h9⟩; subst V9
  refine Ew.ifne_b hx (tgt := 25) dX11_forecast_19 rfl (fun h19 => ?_) (fun h19 => ?_)
  · have ok : anForecast s d = _ := cif_t h19
    have hw2 := h19
    rw [ie, ie, tl_0, tl_181] at hw2
    have hi : nt d ≤ 181 := by unfold nt; omega
    have ed : d = nI (nt d) := ofNI hw2.1
    refine Ew.iload_n hx dX11_forecast_25 rfl ?_
    refine Ew.aload_n hx dX11_forecast_26 rfl ?_
    refine Ew.getI hx dX11_forecast_27 fg_RX11_140 rfl ?_
    rw [hR.today]
    refine Ew.icmp_ge hx (tgt := 36) dX11_forecast_30 rfl (fun h30 => ?_) (fun h30 => ?_)
    · have ec : anForecast s d = _ := ok.trans (cif_t h30)
      have htd : tN s ≤ nt d := by
        have q := h30
        rw [ie, ht.1, ed, tn (by omega), tn (by omega)] at q
        omega
      refine Ew.aload_n hx dX11_forecast_36 rfl ?_
      refine Ew.iload_n hx dX11_forecast_37 rfl ?_
      refine Ew.iload_n hx dX11_forecast_38 rfl ?_
      rw [ed]
      refine Ew.callV2 (y' := mX10_lowestForecast) hx dX11_forecast_39 ml_RX11_222 cf_X10_lowestForecast cv_X10_lowestForecast (ct_X10_lowestForecast G V hR hW (nt d) (nt d) (by omega) (by omega) (by omega)) rfl oc_3 rfl (by decide) (by decide) rfl (Nat.le_of_ble_eq_true rfl) ?_
      rintro _ V9 ⟨rfl, h9⟩; subst V9
      refine Ew.iret hx hq dX11_forecast_42 rfl ?_
      refine ⟨congrArg (fun z => some (Value.int z)) ?_, rfl⟩
      rw [ec, lw_one hW htd]
    · have ec : anForecast s d = -100002 := ok.trans (cif_f h30)
      refine Ew.ldc hx dX11_forecast_33 kn_RX11_96 ?_
      refine Ew.iret hx hq dX11_forecast_35 rfl ?_
      rw [ec]
      exact ⟨rfl, rfl⟩
  · have ec : anForecast s d = -100001 := cif_f h19
    refine Ew.ldc hx dX11_forecast_22 kn_RX11_111 ?_
    refine Ew.iret hx hq dX11_forecast_24 rfl ?_
    rw [ec]
    exact ⟨rfl, rfl⟩
set_option maxHeartbeats 4000000 in
set_option maxRecDepth 100000 in
theorem ct_X11_closure (G : GT) (V : Mm) {s : Sv} {n z : Nat} {h : Nat → Sv} {B : Int} (hC : CR V s n z h B) (x d : Int32) : Ct G mX11_closure 2 [adr G 0, .int x, .int d] (V) (Ri (anClosure s x d) V) := by
  refine Ct.of cf_X11_closure (List.forall_mem_cons.mpr ⟨rfl, List.forall_mem_cons.mpr ⟨rfl, List.forall_mem_cons.mpr ⟨rfl, fun _ h => absurd h List.not_mem_nil⟩⟩⟩) (Nat.le_of_ble_eq_true rfl) (l0 := [some (adr G 0), some (.int x), some (.int d)]) rfl (fun C hx hq => ?_)
  have hS := hC.2.2.2.2.1
  have hR : Rep V 2 s := hS.1
  have hWS := hC.2.2.2.2.2.1
  have hW := hWS.1
  have hnr := hW.nr
  have hnp := hW.np
  have ht := hW.t
  refine Ew.aload_n hx dX11_closure_0 rfl ?_
  refine Ew.getR (1) hx dX11_closure_1 fg_RX11_10 rfl rfl ?_
  refine Ew.getR (2) hx dX11_closure_4 fg_RX11_34 rfl rfl ?_
  refine Ew.iload_n hx dX11_closure_7 rfl ?_
  refine Ew.callV2 (y' := mX7_hasRamp) hx dX11_closure_8 ml_RX11_169 cf_X7_hasRamp cv_X7_hasRamp (ct_X7_hasRamp G V _ hR) rfl oc_2 rfl (by decide) (by decide) rfl (Nat.le_of_ble_eq_true rfl) ?_
  rintro _ V9 ⟨rfl, h9⟩; subst V9
  refine Ew.ifeq_b hx (tgt := 25) dX11_closure_11 rfl (fun h11 => ?_) (fun h11 => ?_)
  · have ec : anClosure s x d = -100001 := cif_f (fun q => h11 q.1)
    refine Ew.ldc hx dX11_closure_25 kn_RX11_111 ?_
    refine Ew.iret hx hq dX11_closure_27 rfl ?_
    rw [ec]
    exact ⟨rfl, rfl⟩
  · refine Ew.iload_n hx dX11_closure_14 rfl ?_
    refine Ew.iconst hx dX11_closure_15 k_iconst_0 ?_
    refine Ew.sipush hx dX11_closure_16 k_sipush_300 ?_
    refine Ew.callS (y' := mX11_isWithin) hx dX11_closure_19 ml_RX11_107 cf_X11_isWithin cs_X11_isWithin (ct_X11_isWithin G _ _ _ _) rfl (by decide) (by decide) rfl (Nat.le_of_ble_eq_true rfl) ?_
    rintro _ V9 ⟨rfl, h9⟩; subst V9
    refine Ew.ifne_b hx (tgt := 28) dX11_closure_22 rfl (fun h22 => ?_) (fun h22 => ?_)
    · have ok : anClosure s x d = _ := cif_t ⟨h11, h22⟩
      obtain ⟨r, hxr, hr⟩ := hW.rix h11
      have hxn : nt x = r := by rw [hxr, nt_nI (by omega)]
      rw [hxn] at ok
      refine Ew.aload_n hx dX11_closure_28 rfl ?_
      refine Ew.getR (1) hx dX11_closure_29 fg_RX11_10 rfl rfl ?_
      refine Ew.getR (2) hx dX11_closure_32 fg_RX11_34 rfl rfl ?_
      refine Ew.iload_n hx dX11_closure_35 rfl ?_
      refine Ew.iload_n hx dX11_closure_36 rfl ?_
      rw [hxr]
      refine Ew.callV2 (y' := mX7_firstClosedDay) hx dX11_closure_37 ml_RX11_225 cf_X7_firstClosedDay cv_X7_firstClosedDay (ct_X7_firstClosedDay G V hR hW hr d) rfl oc_2 rfl (by decide) (by decide) rfl (Nat.le_of_ble_eq_true rfl) ?_
      rintro _ V9 ⟨rfl, h9⟩; subst V9
      refine Ew.iret hx hq dX11_closure_40 rfl ?_
      refine ⟨congrArg (fun z => some (Value.int z)) ?_, rfl⟩
      rw [ok]
    · have ec : anClosure s x d = -100001 := cif_f (fun q => h22 q.2)
      refine Ew.ldc hx dX11_closure_25 kn_RX11_111 ?_
      refine Ew.iret hx hq dX11_closure_27 rfl ?_
      rw [ec]
      exact ⟨rfl, rfl⟩
set_option maxHeartbeats 4000000 in
set_option maxRecDepth 100000 in
theorem ct_X11_draughtFor (G : GT) (V : Mm) {s : Sv} {n z : Nat} {h : Nat → Sv} {B : Int} (hC : CR V s n z h B) (x a b : Int32) : Ct G mX11_draughtFor 2 [adr G 0, .int x, .int a, .int b] (V) (Ri (anDraught s x a b) V) := by
  refine Ct.of cf_X11_draughtFor (List.forall_mem_cons.mpr ⟨rfl, List.forall_mem_cons.mpr ⟨rfl, List.forall_mem_cons.mpr ⟨rfl, List.forall_mem_cons.mpr ⟨rfl, fun _ h => absurd h List.not_mem_nil⟩⟩⟩⟩) (Nat.le_of_ble_eq_true rfl) (l0 := [some (adr G 0), some (.int x), some (.int a), some (.int b), none]) rfl (fun C hx hq => ?_)
  have hS := hC.2.2.2.2.1
  have hR : Rep V 2 s := hS.1
  have hWS := hC.2.2.2.2.2.1
  have hW := hWS.1
  have hnr := hW.nr
  have hnp := hW.np
  have ht := hW.t
  refine Ew.aload_n hx dX11_draughtFor_0 rfl ?_
  refine Ew.getR (1) hx dX11_draughtFor_1 fg_RX11_10 rfl rfl ?_
  refine Ew.getR (2) hx dX11_draughtFor_4 fg_RX11_34 rfl rfl ?_
  refine Ew.astore hx dX11_draughtFor_7 (by decide) rfl ?_
  refine Ew.aload hx dX11_draughtFor_9 rfl ?_
  refine Ew.iload_n hx dX11_draughtFor_11 rfl ?_
  refine Ew.callV2 (y' := mX7_hasRamp) hx dX11_draughtFor_12 ml_RX11_169 cf_X7_hasRamp cv_X7_hasRamp (ct_X7_hasRamp G V _ hR) rfl oc_2 rfl (by decide) (by decide) rfl (Nat.le_of_ble_eq_true rfl) ?_
  rintro _ V9 ⟨rfl, h9⟩; subst V9
  refine Ew.ifeq_b hx (tgt := 40) dX11_draughtFor_15 rfl (fun h15 => ?_) (fun h15 => ?_)
  · have ec : anDraught s x a b = -100001 := cif_f (fun q => h15 q.1)
    refine Ew.ldc hx dX11_draughtFor_40 kn_RX11_111 ?_
    refine Ew.iret hx hq dX11_draughtFor_42 rfl ?_
    rw [ec]
    exact ⟨rfl, rfl⟩
  · refine Ew.iload_n hx dX11_draughtFor_18 rfl ?_
    refine Ew.iconst hx dX11_draughtFor_19 k_iconst_0 ?_
    refine Ew.sipush hx dX11_draughtFor_20 k_sipush_181 ?_
    refine Ew.callS (y' := mX11_isWithin) hx dX11_draughtFor_23 ml_RX11_107 cf_X11_isWithin cs_X11_isWithin (ct_X11_isWithin G _ _ _ _) rfl (by decide) (by decide) rfl (Nat.le_of_ble_eq_true rfl) ?_
    rintro _ V9 ⟨rfl, h9⟩; subst V9
    refine Ew.ifeq_b hx (tgt := 40) dX11_draughtFor_26 rfl (fun h26 => ?_) (fun h26 => ?_)
    · have ec : anDraught s x a b = -100001 := cif_f (fun q => h26 q.2.1)
      refine Ew.ldc hx dX11_draughtFor_40 kn_RX11_111 ?_
      refine Ew.iret hx hq dX11_draughtFor_42 rfl ?_
      rw [ec]
      exact ⟨rfl, rfl⟩
    · refine Ew.iload_n hx dX11_draughtFor_29 rfl ?_
      refine Ew.iload_n hx dX11_draughtFor_30 rfl ?_
      refine Ew.sipush hx dX11_draughtFor_31 k_sipush_181 ?_
      refine Ew.callS (y' := mX11_isWithin) hx dX11_draughtFor_34 ml_RX11_107 cf_X11_isWithin cs_X11_isWithin (ct_X11_isWithin G _ _ _ _) rfl (by decide) (by decide) rfl (Nat.le_of_ble_eq_true rfl) ?_
      rintro _ V9 ⟨rfl, h9⟩; subst V9
      refine Ew.ifne_b hx (tgt := 43) dX11_draughtFor_37 rfl (fun h37 => ?_) (fun h37 => ?_)
      · have ok : anDraught s x a b = _ := cif_t ⟨h15, h26, h37⟩
        obtain ⟨r, hxr, hr⟩ := hW.rix h15
        have hxn : nt x = r := by rw [hxr, nt_nI (by omega)]
        rw [hxn] at ok
        have q1 := h26
        have q2 := h37
        rw [ie, ie, tl_0, tl_181] at q1
        rw [ie, ie, tl_181] at q2
        have ea : a = nI (nt a) := ofNI q1.1
        have eb : b = nI (nt b) := ofNI (by omega)
        have hab : nt a ≤ nt b ∧ nt b ≤ 181 := by unfold nt; omega
        refine Ew.iload_n hx dX11_draughtFor_43 rfl ?_
        refine Ew.aload hx dX11_draughtFor_44 rfl ?_
        refine Ew.getR (3) hx dX11_draughtFor_46 fg_RX11_136 rfl rfl ?_
        refine Ew.getI hx dX11_draughtFor_49 fg_RX11_140 rfl ?_
        rw [hR.today]
        refine Ew.icmp_ge hx (tgt := 58) dX11_draughtFor_52 rfl (fun h52 => ?_) (fun h52 => ?_)
        · have ec : anDraught s x a b = _ := ok.trans (cif_t h52)
          have hta : tN s ≤ nt a := by
            have q := h52
            rw [ie, ht.1, ea, tn (by omega), tn (by omega)] at q
            omega
          refine Ew.aload hx dX11_draughtFor_58 rfl ?_
          refine Ew.getR (8) hx dX11_draughtFor_60 fg_RX11_173 rfl rfl ?_
          refine Ew.iload_n hx dX11_draughtFor_63 rfl ?_
          refine Ew.aldq (10 + r) hx dX11_draughtFor_64 rg_7 rfl (hxr) (by omega) (by omega) ?_
          refine Ew.aload hx dX11_draughtFor_65 rfl ?_
          refine Ew.getR (3) hx dX11_draughtFor_67 fg_RX11_136 rfl rfl ?_
          refine Ew.iload_n hx dX11_draughtFor_70 rfl ?_
          refine Ew.iload_n hx dX11_draughtFor_71 rfl ?_
          rw [ea, eb]
          refine Ew.callV2 (y' := mX10_lowestForecast) hx dX11_draughtFor_72 ml_RX11_222 cf_X10_lowestForecast cv_X10_lowestForecast (ct_X10_lowestForecast G V hR hW (nt a) (nt b) (by omega) (by omega) (by omega)) rfl oc_3 rfl (by decide) (by decide) rfl (Nat.le_of_ble_eq_true rfl) ?_
          rintro _ V9 ⟨rfl, h9⟩; subst V9
          refine Ew.callV2 (y' := mX6_greatestDraught) hx dX11_draughtFor_75 ml_RX11_194 cf_X6_greatestDraught cv_X6_greatestDraught (ct_X6_greatestDraught G V (10 + r) _ (kd_rm (by omega))) (kd_rm (by omega)) oc_9 rfl (by decide) (by decide) rfl (Nat.le_of_ble_eq_true rfl) ?_
          rintro _ V9 ⟨rfl, h9⟩; subst V9
          refine Ew.iret hx hq dX11_draughtFor_78 rfl ?_
          refine ⟨congrArg (fun z => some (Value.int z)) ?_, rfl⟩
          rw [hR.rm hr (by omega) (by decide), ec]
        · have ec : anDraught s x a b = -100002 := ok.trans (cif_f h52)
          refine Ew.ldc hx dX11_draughtFor_55 kn_RX11_96 ?_
          refine Ew.iret hx hq dX11_draughtFor_57 rfl ?_
          rw [ec]
          exact ⟨rfl, rfl⟩
      · have ec : anDraught s x a b = -100001 := cif_f (fun q => h37 q.2.2)
        refine Ew.ldc hx dX11_draughtFor_40 kn_RX11_111 ?_
        refine Ew.iret hx hq dX11_draughtFor_42 rfl ?_
        rw [ec]
        exact ⟨rfl, rfl⟩
set_option maxHeartbeats 4000000 in
set_option maxRecDepth 100000 in
theorem ct_X11_expected (G : GT) (V : Mm) {s : Sv} {n z : Nat} {h : Nat → Sv} {B : Int} (hC : CR V s n z h B) (x w : Int32) : Ct G mX11_expected 3 [adr G 0, .int x, .int w] (V) (Ri (anExpected s x w) V) := by
  refine Ct.of cf_X11_expected (List.forall_mem_cons.mpr ⟨rfl, List.forall_mem_cons.mpr ⟨rfl, List.forall_mem_cons.mpr ⟨rfl, fun _ h => absurd h List.not_mem_nil⟩⟩⟩) (Nat.le_of_ble_eq_true rfl) (l0 := [some (adr G 0), some (.int x), some (.int w), none, none, none]) rfl (fun C hx hq => ?_)
  have hS := hC.2.2.2.2.1
  have hR : Rep V 2 s := hS.1
  have hWS := hC.2.2.2.2.2.1
  have hW := hWS.1
  have hnr := hW.nr
  have hnp := hW.np
  have ht := hW.t
  refine Ew.aload_n hx dX11_expected_0 rfl ?_
  refine Ew.getR (1) hx dX11_expected_1 fg_RX11_10 rfl rfl ?_
  refine Ew.getR (2) hx dX11_expected_4 fg_RX11_34 rfl rfl ?_
  refine Ew.astore_n hx dX11_expected_7 (by decide) rfl ?_
  refine Ew.aload_n hx dX11_expected_8 rfl ?_
  refine Ew.iload_n hx dX11_expected_9 rfl ?_
  refine Ew.callV2 (y' := mX7_hasPermit) hx dX11_expected_10 ml_RX11_197 cf_X7_hasPermit cv_X7_hasPermit (ct_X7_hasPermit G V _ hR) rfl oc_2 rfl (by decide) (by decide) rfl (Nat.le_of_ble_eq_true rfl) ?_
  rintro _ V9 ⟨rfl, h9⟩; subst V9
  refine Ew.ifeq_b hx (tgt := 25) dX11_expected_13 rfl (fun h13 => ?_) (fun h13 => ?_)
  · have ec : anExpected s x w = -100001 := cif_f (fun q => h13 q.1)
    refine Ew.ldc hx dX11_expected_25 kn_RX11_111 ?_
    refine Ew.iret hx hq dX11_expected_27 rfl ?_
    rw [ec]
    exact ⟨rfl, rfl⟩
  · refine Ew.iload_n hx dX11_expected_16 rfl ?_
    refine Ew.iconst hx dX11_expected_17 k_iconst_0 ?_
    refine Ew.iconst hx dX11_expected_18 k_iconst_1 ?_
    refine Ew.callS (y' := mX11_isWithin) hx dX11_expected_19 ml_RX11_107 cf_X11_isWithin cs_X11_isWithin (ct_X11_isWithin G _ _ _ _) rfl (by decide) (by decide) rfl (Nat.le_of_ble_eq_true rfl) ?_
    rintro _ V9 ⟨rfl, h9⟩; subst V9
    refine Ew.ifne_b hx (tgt := 28) dX11_expected_22 rfl (fun h22 => ?_) (fun h22 => ?_)
    · have ok : anExpected s x w = _ := cif_t ⟨h13, h22⟩
      obtain ⟨p, hxp, hp⟩ := hW.pix h13
      have hxn : nt x = p := by rw [hxp, nt_nI (by omega)]
      unfold clI at ok
      rw [hxn] at ok
      refine Ew.aload_n hx dX11_expected_28 rfl ?_
      refine Ew.getR (9) hx dX11_expected_29 fg_RX11_200 rfl rfl ?_
      refine Ew.iload_n hx dX11_expected_32 rfl ?_
      refine Ew.aldq (14 + p) hx dX11_expected_33 rg_8 rfl (hxp) (by omega) (by omega) ?_
      refine Ew.astore hx dX11_expected_34 (by decide) rfl ?_
      refine Ew.aload_n hx dX11_expected_36 rfl ?_
      refine Ew.aload hx dX11_expected_37 rfl ?_
      refine Ew.callV2 (y' := mX7_closedDays) hx dX11_expected_39 ml_RX11_235 cf_X7_closedDays cv_X7_closedDays (ct_X7_closedDays G V hR hW hp) rfl oc_2 rfl (by decide) (by decide) rfl (Nat.le_of_ble_eq_true rfl) ?_
      rintro _ V9 ⟨rfl, h9⟩; subst V9
      refine Ew.istore hx dX11_expected_42 (by decide) rfl ?_
      refine Ew.iload_n hx dX11_expected_44 rfl ?_
      refine Ew.if_ne hx (tgt := 53) dX11_expected_45 rfl (fun h45 => ?_) (fun h45 => ?_)
      · have ec := ok.trans (cif_f h45)
        refine Ew.aload hx dX11_expected_53 rfl ?_
        refine Ew.getI hx dX11_expected_55 fg_RX11_239 (kd_pm (by omega)) ?_
        refine Ew.iload hx dX11_expected_58 rfl ?_
        refine Ew.aload hx dX11_expected_60 rfl ?_
        refine Ew.getI hx dX11_expected_62 fg_RX11_242 (kd_pm (by omega)) ?_
        refine Ew.imul hx dX11_expected_65 ?_
        refine Ew.iadd hx dX11_expected_66 ?_
        refine Ew.iret hx hq dX11_expected_67 rfl ?_
        refine ⟨congrArg (fun z => some (Value.int z)) ?_, rfl⟩
        rw [ec]
        try rw [hR.pm hp (by omega) (by decide), hR.pm hp (by omega) (by decide)]
      · have ec := ok.trans (cif_t h45)
        refine Ew.iload hx dX11_expected_48 rfl ?_
        refine Ew.goto hx (tgt := 67) dX11_expected_50 rfl ?_
        refine Ew.iret hx hq dX11_expected_67 rfl ?_
        refine ⟨congrArg (fun z => some (Value.int z)) ?_, rfl⟩
        rw [ec]
        try rw [hR.pm hp (by omega) (by decide), hR.pm hp (by omega) (by decide)]
    · have ec : anExpected s x w = -100001 := cif_f (fun q => h22 q.2)
      refine Ew.ldc hx dX11_expected_25 kn_RX11_111 ?_
      refine Ew.iret hx hq dX11_expected_27 rfl ?_
      rw [ec]
      exact ⟨rfl, rfl⟩
