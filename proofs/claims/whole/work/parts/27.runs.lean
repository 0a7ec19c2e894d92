theorem CR.fr {V V' : Mm} {s : Sv} {n z : Nat} {h : Nat → Sv} {B : Int} (hC : CR V s n z h B) (hF : ∀ k, 1 ≤ k → k < 528 → V' k = V k) : CR V' s n z h B := by
  obtain ⟨e1, hn, e2, hz, hR, hW, hH⟩ := hC
  refine ⟨by rw [hF 76 (by decide) (by decide)]; exact e1, hn, by rw [hF 76 (by decide) (by decide)]; exact e2, hz, hR.frame (fun k h1 h2 => hF k (by omega) (by omega)), hW, fun j hj => ⟨(hH j hj).1.frame (fun k h1 h2 => hF k (by omega) (by omega)), (hH j hj).2⟩⟩
def cut (V W : Mm) : Mm := fun k => if k < 528 then W k else V k
theorem cut_lo (V W : Mm) {k : Nat} (h : k < 528) : cut V W k = W k := if_pos h
theorem cut_hi (V W : Mm) {k : Nat} (h : 528 ≤ k) : cut V W k = V k := if_neg (by omega)
/-! the numbers left from before change nothing -/
theorem rdN_N (tx : Tx) (ln w : Nat) : ∀ (n i a b : Nat) (N N' : Nat → Int32), (∀ j, j < i → N j = N' j) → (rdN tx ln w n i a b N).1 = (rdN tx ln w n i a b N').1 ∧ (rdN tx ln w n i a b N).2.1 = (rdN tx ln w n i a b N').2.1 ∧ (rdN tx ln w n i a b N).2.2.1 = (rdN tx ln w n i a b N').2.2.1 ∧ ((rdN tx ln w n i a b N).1 < 7 → ∀ j, j < i + n → (rdN tx ln w n i a b N).2.2.2 j = (rdN tx ln w n i a b N').2.2.2 j)
  | 0, i, a, b, N, N', h => by
    unfold rdN
    by_cases q : isTk tx a b 1
    · rw [cif_t q, cif_t q]; exact ⟨rfl, rfl, rfl, fun _ j hj => h j hj⟩
    · rw [cif_f q, cif_f q]; exact ⟨rfl, rfl, rfl, fun _ j hj => h j hj⟩
  | n + 1, i, a, b, N, N', h => by
    have up : ∀ x : Int32, ∀ j, j < i + 1 → upd N i x j = upd N' i x j := fun x j hj => by
      by_cases q : j = i
      · subst q; rw [upd_s, upd_s]
      · rw [upd_n _ _ q, upd_n _ _ q]; exact h j (by omega)
    unfold rdN
    by_cases q : ngP tx w i a b
    · rw [cif_t q, cif_t q]
      by_cases q2 : numI tx ln (sK tx ln b) (tE tx ln (sK tx ln b)) = -1
      · rw [cif_t q2, cif_t q2]; exact ⟨rfl, rfl, rfl, fun e => absurd (show 7 < 7 from e) (by decide)⟩
      · rw [cif_f q2, cif_f q2]
        have r := rdN_N tx ln w n (i + 1) (sK tx ln (tE tx ln (sK tx ln b))) (tE tx ln (sK tx ln (tE tx ln (sK tx ln b)))) _ _ (up (-numI tx ln (sK tx ln b) (tE tx ln (sK tx ln b))))
        exact ⟨r.1, r.2.1, r.2.2.1, fun e j hj => r.2.2.2 e j (by omega)⟩
    · rw [cif_f q, cif_f q]
      by_cases q2 : numI tx ln a b = -1
      · rw [cif_t q2, cif_t q2]; exact ⟨rfl, rfl, rfl, fun e => absurd (show 7 < 7 from e) (by decide)⟩
      · rw [cif_f q2, cif_f q2]
        have r := rdN_N tx ln w n (i + 1) (sK tx ln b) (tE tx ln (sK tx ln b)) _ _ (up (numI tx ln a b))
        exact ⟨r.1, r.2.1, r.2.2.1, fun e j hj => r.2.2.2 e j (by omega)⟩
theorem rdN_w (tx : Tx) (ln w : Nat) : ∀ (n i a b : Nat) (N : Nat → Int32), (rdN tx ln w n i a b N).1 = w ∨ (rdN tx ln w n i a b N).1 = 7
  | 0, i, a, b, N => by
    unfold rdN
    by_cases q : isTk tx a b 1
    · rw [cif_t q]; exact Or.inl rfl
    · rw [cif_f q]; exact Or.inr rfl
  | n + 1, i, a, b, N => by
    unfold rdN
    by_cases q : ngP tx w i a b
    · rw [cif_t q]
      by_cases q2 : numI tx ln (sK tx ln b) (tE tx ln (sK tx ln b)) = -1
      · rw [cif_t q2]; exact Or.inr rfl
      · rw [cif_f q2]; exact rdN_w tx ln w n (i + 1) _ _ _
    · rw [cif_f q]
      by_cases q2 : numI tx ln a b = -1
      · rw [cif_t q2]; exact Or.inr rfl
      · rw [cif_f q2]; exact rdN_w tx ln w n (i + 1) _ _ _
theorem rdC_N (tx : Tx) (ln a b : Nat) (N N' : Nat → Int32) : (rdC tx ln a b N).1 = (rdC tx ln a b N').1 ∧ (rdC tx ln a b N).2.1 = (rdC tx ln a b N').2.1 ∧ (rdC tx ln a b N).2.2.1 = (rdC tx ln a b N').2.2.1 ∧ ((rdC tx ln a b N).1 < 7 → ∀ j, j < nmN (rdC tx ln a b N).1 → (rdC tx ln a b N).2.2.2 j = (rdC tx ln a b N').2.2.2 j) := by
  unfold rdC
  by_cases h : cmI tx a b < 7
  · rw [cif_t h, cif_t h]
    have r := rdN_N tx ln (cmI tx a b) (nmN (cmI tx a b)) 0 (sK tx ln b) (tE tx ln (sK tx ln b)) N N' (fun j hj => absurd hj (Nat.not_lt_zero j))
    refine ⟨r.1, r.2.1, r.2.2.1, fun e j hj => r.2.2.2 e j ?_⟩
    rcases rdN_w tx ln (cmI tx a b) (nmN (cmI tx a b)) 0 (sK tx ln b) (tE tx ln (sK tx ln b)) N with q | q
    · rw [q] at hj; omega
    · omega
  · rw [cif_f h, cif_f h]; exact ⟨rfl, rfl, rfl, fun e => absurd (show 7 < 7 from e) (by decide)⟩
theorem cdW_N (s : Sv) {N N' : Nat → Int32} {w : Nat} (hw : w < 7) (h : ∀ j, j < nmN w → N j = N' j) : cdW s N w = cdW s N' w ∧ nxW s N w = nxW s N' w := by
  rcases sp7 hw with rfl | rfl | rfl | rfl | rfl | rfl | rfl
  · have e0 := h 0 (by decide)
    have e1 := h 1 (by decide)
    have e2 := h 2 (by decide)
    show cdRamp s (N 0) (N 1) (N 2) = cdRamp s (N' 0) (N' 1) (N' 2) ∧ nxRamp s (N 0) (N 1) (N 2) = nxRamp s (N' 0) (N' 1) (N' 2)
    rw [e0, e1, e2]; exact ⟨rfl, rfl⟩
  · have e0 := h 0 (by decide)
    have e1 := h 1 (by decide)
    show cdRate (N 0) (N 1) = cdRate (N' 0) (N' 1) ∧ upd s (11 + nt (N 0)) (N 1) = upd s (11 + nt (N' 0)) (N' 1)
    rw [e0, e1]; exact ⟨rfl, rfl⟩
  · have e0 := h 0 (by decide)
    have e1 := h 1 (by decide)
    have e2 := h 2 (by decide)
    have e3 := h 3 (by decide)
    show cdBuy s (N 0) (N 1) (N 2) (N 3) = cdBuy s (N' 0) (N' 1) (N' 2) (N' 3) ∧ nxBuy s (N 0) (N 1) (N 2) (N 3) = nxBuy s (N' 0) (N' 1) (N' 2) (N' 3)
    rw [e0, e1, e2, e3]; exact ⟨rfl, rfl⟩
  · have e0 := h 0 (by decide)
    have e1 := h 1 (by decide)
    show cdMove s (N 0) (N 1) = cdMove s (N' 0) (N' 1) ∧ nxMove s (N 0) (N 1) = nxMove s (N' 0) (N' 1)
    rw [e0, e1]; exact ⟨rfl, rfl⟩
  · have e0 := h 0 (by decide)
    show cdCancel s (N 0) = cdCancel s (N' 0) ∧ nxCancel s (N 0) = nxCancel s (N' 0)
    rw [e0]; exact ⟨rfl, rfl⟩
  · have e0 := h 0 (by decide)
    show cdRefund s (N 0) = cdRefund s (N' 0) ∧ nxRefund s (N 0) = nxRefund s (N' 0)
    rw [e0]; exact ⟨rfl, rfl⟩
  · have e0 := h 0 (by decide)
    show cdPass s (N 0) = cdPass s (N' 0) ∧ nxPass s (N 0) = nxPass s (N' 0)
    rw [e0]; exact ⟨rfl, rfl⟩
theorem rnP_N (tx : Tx) (ln : Nat) : ∀ (n : Nat) (s : Sv) (a b : Nat) (N N' : Nat → Int32) (i : Nat), rnP tx ln n s a b N i = rnP tx ln n s a b N' i
  | 0, _, _, _, _, _, _ => rfl
  | n + 1, s, a, b, N, N', i => by
    unfold rnP
    by_cases h : ln ≤ a
    · rw [cif_t h, cif_t h]
    · rw [cif_f h, cif_f h]
      obtain ⟨r1, r2, r3, r4⟩ := rdC_N tx ln a b N N'
      by_cases h2 : (rdC tx ln a b N).1 < 7
      · have c := cdW_N s h2 (r4 h2)
        have h2' : (rdC tx ln a b N').1 < 7 := by rw [← r1]; exact h2
        rw [cif_t h2, cif_t h2', c.1, c.2, r1, r2, r3]
        by_cases h3 : cdW s (rdC tx ln a b N').2.2.2 (rdC tx ln a b N').1 = 0
        · rw [cif_t h3, cif_t h3]; exact rnP_N tx ln n _ _ _ _ _ _
        · rw [cif_f h3, cif_f h3]
      · have h2' : ¬ (rdC tx ln a b N').1 < 7 := by rw [← r1]; exact h2
        rw [cif_f h2, cif_f h2', r2]
/-- what run answers, and what it leaves -/
noncomputable def rnR (tx : Tx) (ln : Nat) (s : Sv) : RR := rnP tx ln 140 s (sK tx ln 0) (tE tx ln (sK tx ln 0)) (fun _ => 0) 0
theorem rn_neg {a : Nat} (h : a ≤ 140) : ¬ (0 : Int32) ≤ -1000 - nI a := by
  intro q
  rw [ie, subT (by rw [tl_m1000, tn (by omega)]; omega) (by rw [tl_m1000, tn (by omega)]; omega), tl_m1000, tl_0, tn (by omega)] at q
  omega
def RunQ (V : Mm) (s : Sv) (n z : Nat) (h : Nat → Sv) (B : Int) (r : RR) : PT := fun v V9 => v = some (.int (rnA r)) ∧ (∀ k, k < 1 ∨ 528 ≤ k → k ≠ 528 → k ≠ 529 → k ≠ 531 → V9 k = V k) ∧ ((r.1 = 0 ∧ CR V9 r.2.2.2.2 (nxH n) (szH z) (psh s h) (B + 2100000) ∧ V9 528 = V 528 ∧ V9 529 1 = 0) ∨ (r.1 ≠ 0 ∧ CR V9 s n z h B ∧ V9 528 = upd (upd (upd (upd (V 528) 2 r.1) 3 r.2.1) 4 r.2.2.1) 5 (nI r.2.2.2.1) ∧ V9 529 1 = V 529 1))
theorem ct_X5_carry2 (G : GT) (V : Mm) {tx : Tx} {ln : Nat} (hT : TX V tx ln) {s : Sv} {B : Int} (hB0 : 0 ≤ B) (hB : B + 2100000 < 2147483648) (hR : Rep V 2 s) (hW : WF s B) : Ct G mX5_carryOut 7 [adr G 528, adr G 2] V (RnQ V s B (rnR tx ln s)) := by
  unfold rnR
  rw [rnP_N tx ln 140 s (sK tx ln 0) (tE tx ln (sK tx ln 0)) (fun _ => 0) (V 531) 0]
  exact ct_X5_carryOut G V hT hB0 hB hR hW
set_option maxHeartbeats 4000000 in
set_option maxRecDepth 100000 in
theorem ct_X11_run (G : GT) (V : Mm) {s : Sv} {n z : Nat} {h : Nat → Sv} {B : Int} (hC : CR V s n z h B) {tx : Tx} {ln : Nat} (hT : TX V tx ln) (hB0 : 0 ≤ B) (hB : B + 2100000 < 2147483648) : Ct G mX11_run 8 [adr G 0] (V) (RunQ V s n z h B (rnR tx ln s)) := by
  refine Ct.of cf_X11_run (List.forall_mem_cons.mpr ⟨rfl, fun _ h => absurd h List.not_mem_nil⟩) (Nat.le_of_ble_eq_true rfl) (l0 := [some (adr G 0), none]) rfl (fun C hx hq => ?_)
  have hn := hC.2.1
  have hz := hC.2.2.2.1
  have hR := hC.2.2.2.2.1
  have hW := hC.2.2.2.2.2.1
  refine Ew.aload_n hx dX11_run_0 rfl ?_
  refine Ew.getR (76) hx dX11_run_1 fg_RX11_19 rfl rfl ?_
  refine Ew.aload_n hx dX11_run_4 rfl ?_
  refine Ew.getR (1) hx dX11_run_5 fg_RX11_10 rfl rfl ?_
  refine Ew.callV2 (y' := mX3_prepare) hx dX11_run_8 ml_RX11_30 cf_X3_prepare cv_X3_prepare (ct_X3_prepare G V hC.1 hn hR hW) rfl oc_13 rfl (by decide) (by decide) rfl (Nat.le_of_ble_eq_true rfl) ?_
  rintro _ V1 ⟨rfl, hp, hpF⟩
  have hC1 := hC.prep hpF
  have hT1 : TX V1 tx ln := ⟨by rw [hpF _ (by omega)]; exact hT.1, hT.2.1, fun i hi => by rw [hpF _ (by omega)]; exact hT.2.2 i hi⟩
  refine Ew.aload_n hx dX11_run_11 rfl ?_
  refine Ew.getR (528) hx dX11_run_12 fg_RX11_26 rfl rfl ?_
  refine Ew.aload_n hx dX11_run_15 rfl ?_
  refine Ew.getR (1) hx dX11_run_16 fg_RX11_10 rfl rfl ?_
  refine Ew.getR (2) hx dX11_run_19 fg_RX11_34 rfl rfl ?_
  refine Ew.callV2 (y' := mX5_carryOut) hx dX11_run_22 ml_RX11_126 cf_X5_carryOut cv_X5_carryOut (ct_X5_carry2 G V1 hT1 hB0 hB hC1.2.2.2.2.1.1 hW.1) rfl oc_15 rfl (by decide) (by decide) rfl (Nat.le_of_ble_eq_true rfl) ?_
  rintro _ V2 ⟨rfl, hR2, hW2, hm2, hF2, hG2, hD2⟩
  have hD : ((rnR tx ln s).1 = 0 ∧ V2 528 = V1 528 ∧ ∃ i, i ≤ 140 ∧ rnA (rnR tx ln s) = nI i) ∨ ((rnR tx ln s).1 ≠ 0 ∧ V2 528 = upd (upd (upd (upd (V1 528) 2 (rnR tx ln s).1) 3 (rnR tx ln s).2.1) 4 (rnR tx ln s).2.2.1) 5 (nI (rnR tx ln s).2.2.2.1) ∧ ∃ a, a ≤ 140 ∧ rnA (rnR tx ln s) = -1000 - nI a) := hD2
  have hFr : Fr 2 26 V1 (cut V1 V2) := fun k hk => by
    rcases Nat.lt_or_ge k 528 with q | q
    · rw [cut_lo _ _ q]; exact hF2 k hk (by omega) (by omega) (by omega)
    · rw [cut_hi _ _ q]
  show Ew G C V2 25 _ [Value.int (rnA (rnR tx ln s))]
  refine Ew.istore_n hx dX11_run_25 (by decide) rfl ?_
  refine Ew.iload_n hx dX11_run_26 rfl ?_
  refine Ew.if_ge hx (tgt := 47) dX11_run_27 rfl (fun h27 => ?_) (fun h27 => ?_)
  · have hs : (rnR tx ln s).1 = 0 ∧ V2 528 = V1 528 := by
      rcases hD with ⟨k0, e, i, hi, ei⟩ | ⟨k1, e, a, ha, ea⟩
      · exact ⟨k0, e⟩
      · rw [ea] at h27; exact absurd h27 (rn_neg ha)
    refine Ew.aload_n hx dX11_run_47 rfl ?_
    refine Ew.getR (76) hx dX11_run_48 fg_RX11_19 rfl rfl ?_
    refine Ew.callV2 (y' := mX3_keep) hx dX11_run_51 ml_RX11_130 cf_X3_keep cv_X3_keep (ct_X3_keep G V2 (n := n) (z := z) (by rw [hF2 76 (by decide) (by decide) (by decide) (by decide)]; exact hC1.1) hn (by rw [hF2 76 (by decide) (by decide) (by decide) (by decide)]; exact hC1.2.2.1) hz) rfl oc_13 rfl (by decide) (by decide) rfl (Nat.le_of_ble_eq_true rfl) ?_
    rintro _ V9 ⟨rfl, h9⟩; subst V9
    refine Ew.aload_n hx dX11_run_54 rfl ?_
    refine Ew.getR (528) hx dX11_run_55 fg_RX11_26 rfl rfl ?_
    refine Ew.getR (529) hx dX11_run_58 fg_RX11_112 rfl rfl ?_
    refine Ew.callV2 (y' := mX9_empty) hx dX11_run_61 ml_RX11_122 cf_X9_empty cv_X9_empty (ct_X9_empty G _) rfl oc_16 rfl (by decide) (by decide) rfl (Nat.le_of_ble_eq_true rfl) ?_
    rintro _ V9 ⟨rfl, h9⟩; subst V9
    refine Ew.pop hx dX11_run_64 rfl ?_
    refine Ew.iload_n hx dX11_run_65 rfl ?_
    refine Ew.iret hx hq dX11_run_66 rfl ?_
    first
      | (refine ⟨rfl, fun k h1 h2 h3 h4 => by rw [hF3 k (by omega), hF2 k (by omega) h2 h3 h4, hpF k (by omega)], Or.inr ⟨hs.1, ?_, ?_, ?_⟩⟩
         · refine CR.fr (V := cut V1 V3) ⟨?_, hn, ?_, hz, ?_, hW, fun j hj => ?_⟩ (fun k h1 h2 => (cut_lo _ _ h2).symm)
           · rw [cut_lo _ _ (by decide), hF3 76 (by decide), hF2 76 (by decide) (by decide) (by decide) (by decide)]; exact hC1.1
           · rw [cut_lo _ _ (by decide), hF3 76 (by decide), hF2 76 (by decide) (by decide) (by decide) (by decide)]; exact hC1.2.2.1
           · exact hc3.frame (fun k h1 h2 => cut_lo _ _ (by omega))
           · exact ⟨(hC1.2.2.2.2.2.2 j hj).1.frame (fun k h1 h2 => by rw [cut_lo _ _ (by omega), hF3 k (by omega), hF2 k (by omega) (by omega) (by omega) (by omega)]), (hC1.2.2.2.2.2.2 j hj).2⟩
         · rw [hF3 528 (by decide), hs.2, hpF 528 (by omega)]
         · rw [hF3 529 (by decide), hG2 1 (by decide) (by decide), hpF 529 (by omega)])
      | (refine ⟨rfl, fun k h1 h2 h3 h4 => by rw [mup_ne _ _ _ h3, mup_ne _ _ _ (by omega), mup_ne _ _ _ (by omega), hF2 k (by omega) h2 h3 h4, hpF k (by omega)], Or.inl ⟨hs.1, ?_, ?_, mup_self _ _ _ _⟩⟩
         · refine CR.fr (hC1.ok hp (st_up hC1.2.2.2.2.1 (hR2.frame (fun k h1 h2 => cut_lo V1 V2 (by omega))) hFr hm2) (fun k hk => hFr k (by omega)) (ws_up hW (by omega) hW2 hm2) (by omega)) (fun k h1 h2 => ?_)
           rw [mup_ne _ _ _ (by omega)]
           by_cases q : k = 76
           · subst q
             rw [mup_same, mup_same, mup_same, mup_same, cut_lo _ _ (by decide)]
           · rw [mup_ne _ _ _ q, mup_ne _ _ _ q, mup_ne _ _ _ q, mup_ne _ _ _ q, cut_lo _ _ h2]
         · rw [mup_ne _ _ _ (by decide), mup_ne _ _ _ (by decide), mup_ne _ _ _ (by decide), hs.2, hpF 528 (by omega)])
  · have hs : (rnR tx ln s).1 ≠ 0 ∧ V2 528 = upd (upd (upd (upd (V1 528) 2 (rnR tx ln s).1) 3 (rnR tx ln s).2.1) 4 (rnR tx ln s).2.2.1) 5 (nI (rnR tx ln s).2.2.2.1) := by
      rcases hD with ⟨k0, e, i, hi, ei⟩ | ⟨k1, e, a, ha, ea⟩
      · rw [ei] at h27; exact absurd (nI_pos' (by omega)) h27
      · exact ⟨k1, e⟩
    refine Ew.aload_n hx dX11_run_30 rfl ?_
    refine Ew.getR (1) hx dX11_run_31 fg_RX11_10 rfl rfl ?_
    refine Ew.aload_n hx dX11_run_34 rfl ?_
    refine Ew.getR (76) hx dX11_run_35 fg_RX11_19 rfl rfl ?_
    refine Ew.callV2 (y' := mX3_prepared) hx dX11_run_38 ml_RX11_100 cf_X3_prepared cv_X3_prepared (ct_X3_prepared G V2 (n := n) (by rw [hF2 76 (by decide) (by decide) (by decide) (by decide)]; exact hC1.1) hn) rfl oc_13 rfl (by decide) (by decide) rfl (Nat.le_of_ble_eq_true rfl) ?_
    rintro _ V9 ⟨rfl, h9⟩; subst V9
    refine Ew.callV2 (y' := mX8_copyFrom) hx dX11_run_41 ml_RX11_104 cf_X8_copyFrom cv_X8_copyFrom (ct_X8_copyFrom G V2 (U := 78 + 75 * n) tn_1 (tn_r (by omega)) (by omega) (hp.frame (fun k h1 h2 => hF2 k (by omega) (by omega) (by omega) (by omega))) hW) rfl oc_1 rfl (by decide) (by decide) rfl (Nat.le_of_ble_eq_true rfl) ?_
    rintro _ V3 ⟨rfl, hc3, hF3⟩
    skip
    refine Ew.goto hx (tgt := 65) dX11_run_44 rfl ?_
    refine Ew.iload_n hx dX11_run_65 rfl ?_
    refine Ew.iret hx hq dX11_run_66 rfl ?_
    first
      | (refine ⟨rfl, fun k h1 h2 h3 h4 => by rw [hF3 k (by omega), hF2 k (by omega) h2 h3 h4, hpF k (by omega)], Or.inr ⟨hs.1, ?_, ?_, ?_⟩⟩
         · refine CR.fr (V := cut V1 V3) ⟨?_, hn, ?_, hz, ?_, hW, fun j hj => ?_⟩ (fun k h1 h2 => (cut_lo _ _ h2).symm)
           · rw [cut_lo _ _ (by decide), hF3 76 (by decide), hF2 76 (by decide) (by decide) (by decide) (by decide)]; exact hC1.1
           · rw [cut_lo _ _ (by decide), hF3 76 (by decide), hF2 76 (by decide) (by decide) (by decide) (by decide)]; exact hC1.2.2.1
           · exact hc3.frame (fun k h1 h2 => cut_lo _ _ (by omega))
           · exact ⟨(hC1.2.2.2.2.2.2 j hj).1.frame (fun k h1 h2 => by rw [cut_lo _ _ (by omega), hF3 k (by omega), hF2 k (by omega) (by omega) (by omega) (by omega)]), (hC1.2.2.2.2.2.2 j hj).2⟩
         · rw [hF3 528 (by decide), hs.2, hpF 528 (by omega)]
         · rw [hF3 529 (by decide), hG2 1 (by decide) (by decide), hpF 529 (by omega)])
      | (refine ⟨rfl, fun k h1 h2 h3 h4 => by rw [mup_ne _ _ _ h3, mup_ne _ _ _ (by omega), mup_ne _ _ _ (by omega), hF2 k (by omega) h2 h3 h4, hpF k (by omega)], Or.inl ⟨hs.1, ?_, ?_, mup_self _ _ _ _⟩⟩
         · refine CR.fr (hC1.ok hp (st_up hC1.2.2.2.2.1 (hR2.frame (fun k h1 h2 => cut_lo V1 V2 (by omega))) hFr hm2) (fun k hk => hFr k (by omega)) (ws_up hW (by omega) hW2 hm2) (by omega)) (fun k h1 h2 => ?_)
           rw [mup_ne _ _ _ (by omega)]
           by_cases q : k = 76
           · subst q
             rw [mup_same, mup_same, mup_same, mup_same, cut_lo _ _ (by decide)]
           · rw [mup_ne _ _ _ q, mup_ne _ _ _ q, mup_ne _ _ _ q, mup_ne _ _ _ q, cut_lo _ _ h2]
         · rw [mup_ne _ _ _ (by decide), mup_ne _ _ _ (by decide), mup_ne _ _ _ (by decide), hs.2, hpF 528 (by omega)])
