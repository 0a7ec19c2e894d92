theorem rdN_s {tx : Tx} {ln w n i a : Nat} {N : Nat → Int32} : rdN tx ln w (n + 1) i a (tE tx ln a) N = cif (numI tx ln (pA tx ln w i a) (tE tx ln (pA tx ln w i a)) = -1) (7, pA tx ln w i a, tE tx ln (pA tx ln w i a), N) (rdN tx ln w n (i + 1) (sK tx ln (tE tx ln (pA tx ln w i a))) (tE tx ln (sK tx ln (tE tx ln (pA tx ln w i a)))) (upd N i (rvI tx ln w i a))) := by
  rw [rdN]
  unfold rvI
  by_cases h : ngP tx w i a (tE tx ln a)
  · have ep : pA tx ln w i a = sK tx ln (tE tx ln a) := cif_t h
    rw [cif_t h, cif_t h, ep]
  · have ep : pA tx ln w i a = a := cif_f h
    rw [cif_f h, cif_f h, ep]
theorem anW_b {s : Sv} {B : Int} (hW : WF s B) (N : Nat → Int32) {w : Nat} (hw : w < 7) (hc : cdW s N w = 0) : -100009 ≤ anW s N w := by
  have hnp := hW.np.2
  have hnr := hW.nr.2
  rw [ie, tl_m100009]
  rcases sp7 hw with rfl | rfl | rfl | rfl | rfl | rfl | rfl
  · show _ ≤ (s 2).toInt
    have := hW.2.2.1
    omega
  · have ok : cdRate (N 0) (N 1) = 0 := hc
    have hw0 := (cif_0 ok).1.1
    rw [ie, ie, tl_0, tl_25] at hw0
    have := hW.rate (w := nt (N 0)) (by unfold nt; omega)
    show _ ≤ (s (11 + nt (N 0))).toInt
    omega
  · show _ ≤ (s 3).toInt
    have := hW.2.2.2.1
    omega
  · have ok : cdMove s (N 0) (N 1) = 0 := hc
    obtain ⟨r, hxr, hr⟩ := hW.rix (cif_0 ok).1.2
    obtain ⟨k, hpk, hk⟩ := hW.pix (cif_0 ok).1.1
    have := mvD_b hW hk hr (x := N 0) (y := N 1) (by rw [hpk, nt_nI (by omega)]) (by rw [hxr, nt_nI (by omega)])
    show _ ≤ (mvD s (N 0) (N 1)).toInt
    omega
  · have ok : cdCancel s (N 0) = 0 := hc
    obtain ⟨k, hpk, hk⟩ := hW.pix (cif_0 ok).1
    have := cnO_b hW hk (x := N 0) (by rw [hpk, nt_nI (by omega)])
    show _ ≤ (anCancel s (N 0)).toInt
    omega
  · have ok : cdRefund s (N 0) = 0 := hc
    obtain ⟨k, hpk, hk⟩ := hW.pix (cif_0 ok).1
    have := (hW.pm hk).2.2.2.2.1
    show _ ≤ (pf s (nt (N 0)) 7).toInt
    rw [hpk, nt_nI (by omega)]
    omega
  · have := lsN_le hW
    show _ ≤ (nI (lsN s (npN s))).toInt
    rw [tn (by omega)]
    omega
abbrev RT : Type := Nat × Nat × Nat × (Nat → Int32)
/-- what a command leaves: done; refused by its call; not let by the grammar -/
def CMQ (V : Mm) (tx : Tx) (ln : Nat) (u : Sv) (r : RT) (a c : Nat) : PT := fun v V9 => v = none ∧ (∀ j, j < 532 ∨ j = 534 ∨ j = 535 ∨ j = 537 → V9 j = V j) ∧ (∀ i, i < 10 → V9 532 i = V 532 i) ∧
  ((r.1 < 7 ∧ cdW u r.2.2.2 r.1 = 0 ∧ MR V9 (nxW u r.2.2.2 r.1) ∧ TK V9 tx ln r.2.1 ∧ r.2.2.1 = tE tx ln r.2.1 ∧ V9 538 = r.2.2.2 ∧ NFl V V9 ∧ V9 532 15 = nI (c + 1)) ∨
   (r.1 < 7 ∧ ¬ cdW u r.2.2.2 r.1 = 0 ∧ MR V9 u ∧ FL V9 (cif (cdW u r.2.2.2 r.1 = -100001) 2 3) (nI a) (cdW u r.2.2.2 r.1) (nI c)) ∨
   (¬ r.1 < 7 ∧ MR V9 u ∧ FL V9 1 (nI r.2.1) (-100009) (nI c)))
theorem cmq_bad {V V9 : Mm} {tx : Tx} {ln a c x y : Nat} {u : Sv} {r : RT} {N : Nat → Int32} (hM : MR V u) (hr : (7, x, y, N) = r) (h : FMf V V9 ∧ FL V9 1 (nI x) (-100009) (V 532 15)) (e15 : V 532 15 = nI c) : CMQ V tx ln u r a c none V9 := by
  subst hr
  rw [e15] at h
  exact ⟨rfl, fun j hj => h.1.1 j (by omega) (by omega) (by omega), h.1.2.1, Or.inr (Or.inr ⟨by show ¬ 7 < 7; omega, hM.fr (h.1.1 533 (by decide) (by decide) (by decide)), h.2⟩)⟩
set_option maxHeartbeats 4000000 in
set_option maxRecDepth 100000 in
theorem cmd_x {G : GT} {C : CT} {V W : Mm} {tx : Tx} {ln a c : Nat} {u : Sv} {r : RT} {w : Nat} {x3 : Int32} (h14 : W 532 14 = 0) (hW9 : CMQ V tx ln u r a c none W) (hx : Cx G mX12_command 6 C) (hq : Cq G (CMQ V tx ln u r a c) C) : Ew G C W 100 [some (adr G 532), some (.int (nI a)), some (.int (nI w)), some (.int x3), none] [] := by
  refine Ew.aload_n hx dX12_command_100 rfl ?_
  refine Ew.getI hx dX12_command_101 fg_RX12_170 rfl ?_
  refine Ew.if_ne_f hx (tgt := 108) dX12_command_104 rfl (h14) ?_
  refine Ew.vret hx hq dX12_command_107 rfl ?_
  exact hW9
set_option maxHeartbeats 4000000 in
set_option maxRecDepth 100000 in
theorem cmd_f {G : GT} {C : CT} {V W : Mm} {tx : Tx} {ln a c : Nat} {u : Sv} {r : RT} {w i : Nat} (hw : w < 7) (h14 : W 532 14 = 0) (hW9 : CMQ V tx ln u r a c none W) (hx : Cx G mX12_command 6 C) (hq : Cq G (CMQ V tx ln u r a c) C) : Ew G C W 34 [some (adr G 532), some (.int (nI a)), some (.int (nI w)), some (.int (nI i)), none] [] := by
  refine Ew.iload_n hx dX12_command_34 rfl ?_
  refine Ew.iload_n hx dX12_command_35 rfl ?_
  refine Ew.callS (y' := mX12_numbersOf) hx dX12_command_36 ml_RX12_208 cf_X12_numbersOf cs_X12_numbersOf (ct_X12_numbersOf G W hw) rfl (by decide) (by decide) rfl (Nat.le_of_ble_eq_true rfl) ?_
  rintro _ V9 ⟨rfl, h9⟩; subst V9
  refine Ew.icmp_ge hx (tgt := 61) dX12_command_39 rfl (fun h39 => ?_) (fun h39 => ?_)
  · refine Ew.aload_n hx dX12_command_61 rfl ?_
    refine Ew.getI hx dX12_command_62 fg_RX12_170 rfl ?_
    refine Ew.if_eq_t hx (tgt := 100) dX12_command_65 rfl (h14) ?_
    exact cmd_x h14 hW9 hx hq
  · refine Ew.aload_n hx dX12_command_42 rfl ?_
    refine Ew.getI hx dX12_command_43 fg_RX12_170 rfl ?_
    refine Ew.if_eq_t hx (tgt := 61) dX12_command_46 rfl (h14) ?_
    refine Ew.aload_n hx dX12_command_61 rfl ?_
    refine Ew.getI hx dX12_command_62 fg_RX12_170 rfl ?_
    refine Ew.if_eq_t hx (tgt := 100) dX12_command_65 rfl (h14) ?_
    exact cmd_x h14 hW9 hx hq
set_option maxHeartbeats 4000000 in
set_option maxRecDepth 100000 in
theorem cmd_ok {G : GT} {C : CT} {V W : Mm} {tx : Tx} {ln a c : Nat} {u : Sv} {r : RT} {B : Int} {w b : Nat} {x3 : Int32} (hw : w < 7) (hM : MR V u) (hWF : WF u B) (e14 : V 532 14 = 1) (e15 : V 532 15 = nI c) (hF : FMf V W) (hN : NFl V W) (hK : TK W tx ln b) (hr : (w, sK tx ln (tE tx ln b), tE tx ln (sK tx ln (tE tx ln b)), W 538) = r) (hx : Cx G mX12_command 6 C) (hq : Cq G (CMQ V tx ln u r a c) C) : Ew G C W 100 [some (adr G 532), some (.int (nI a)), some (.int (nI w)), some (.int x3), none] [] := by
  have hMW : MR W u := hM.fr (hF.1 533 (by decide) (by decide) (by decide))
  have h14 : W 532 14 = 1 := hN.1.trans e14
  refine Ew.aload_n hx dX12_command_100 rfl ?_
  refine Ew.getI hx dX12_command_101 fg_RX12_170 rfl ?_
  refine Ew.if_ne_t hx (tgt := 108) dX12_command_104 rfl (by rw [h14]; decide) ?_
  refine Ew.aload_n hx dX12_command_108 rfl ?_
  refine Ew.iload_n hx dX12_command_109 rfl ?_
  refine Ew.aload_n hx dX12_command_110 rfl ?_
  refine Ew.getR (538) hx dX12_command_111 fg_RX12_25 rfl rfl ?_
  refine Ew.iconst hx dX12_command_114 k_iconst_0 ?_
  refine Ew.iald (i := 0) hx dX12_command_115 ag_18 rfl (rfl) (by decide) ?_
  refine Ew.aload_n hx dX12_command_116 rfl ?_
  refine Ew.getR (538) hx dX12_command_117 fg_RX12_25 rfl rfl ?_
  refine Ew.iconst hx dX12_command_120 k_iconst_1 ?_
  refine Ew.iald (i := 1) hx dX12_command_121 ag_18 rfl (rfl) (by decide) ?_
  refine Ew.aload_n hx dX12_command_122 rfl ?_
  refine Ew.getR (538) hx dX12_command_123 fg_RX12_25 rfl rfl ?_
  refine Ew.iconst hx dX12_command_126 k_iconst_2 ?_
  refine Ew.iald (i := 2) hx dX12_command_127 ag_18 rfl (rfl) (by decide) ?_
  refine Ew.aload_n hx dX12_command_128 rfl ?_
  refine Ew.getR (538) hx dX12_command_129 fg_RX12_25 rfl rfl ?_
  refine Ew.iconst hx dX12_command_132 k_iconst_3 ?_
  refine Ew.iald (i := 3) hx dX12_command_133 ag_18 rfl (rfl) (by decide) ?_
  refine Ew.callV2 (y' := mX12_codeOf) hx dX12_command_134 ml_RX12_215 cf_X12_codeOf cv_X12_codeOf (ct_X12_codeOf G W hMW hWF (W 538) hw) rfl oc_19 rfl (by decide) (by decide) rfl (Nat.le_of_ble_eq_true rfl) ?_
  rintro _ W1 ⟨rfl, h1⟩
  refine Ew.istore_n hx dX12_command_137 (by decide) rfl ?_
  refine Ew.iload_n hx dX12_command_138 rfl ?_
  refine Ew.if_ge hx (tgt := 160) dX12_command_139 rfl (fun h139 => ?_) (fun h139 => ?_)
  · have hc0 : cdW u (W 538) w = 0 := cdE_ok (cdW_e u (W 538) hw) h139
    have e8 : W1 538 = W 538 := h1 538 (by decide)
    have hc : cdW u (W1 538) w = 0 := by rw [e8]; exact hc0
    have hM1 := hMW.fr (h1 533 (by decide))
    refine Ew.aload_n hx dX12_command_160 rfl ?_
    refine Ew.iload_n hx dX12_command_161 rfl ?_
    refine Ew.aload_n hx dX12_command_162 rfl ?_
    refine Ew.getR (538) hx dX12_command_163 fg_RX12_25 rfl rfl ?_
    refine Ew.iconst hx dX12_command_166 k_iconst_0 ?_
    refine Ew.iald (i := 0) hx dX12_command_167 ag_18 rfl (rfl) (by decide) ?_
    refine Ew.aload_n hx dX12_command_168 rfl ?_
    refine Ew.getR (538) hx dX12_command_169 fg_RX12_25 rfl rfl ?_
    refine Ew.iconst hx dX12_command_172 k_iconst_1 ?_
    refine Ew.iald (i := 1) hx dX12_command_173 ag_18 rfl (rfl) (by decide) ?_
    refine Ew.aload_n hx dX12_command_174 rfl ?_
    refine Ew.getR (538) hx dX12_command_175 fg_RX12_25 rfl rfl ?_
    refine Ew.iconst hx dX12_command_178 k_iconst_2 ?_
    refine Ew.iald (i := 2) hx dX12_command_179 ag_18 rfl (rfl) (by decide) ?_
    refine Ew.aload_n hx dX12_command_180 rfl ?_
    refine Ew.getR (538) hx dX12_command_181 fg_RX12_25 rfl rfl ?_
    refine Ew.iconst hx dX12_command_184 k_iconst_3 ?_
    refine Ew.iald (i := 3) hx dX12_command_185 ag_18 rfl (rfl) (by decide) ?_
    refine Ew.callV2 (y' := mX12_carry) hx dX12_command_186 ml_RX12_219 cf_X12_carry cv_X12_carry (ct_X12_carry G W1 hM1 hWF (W1 538) hw hc) rfl oc_19 rfl (by decide) (by decide) rfl (Nat.le_of_ble_eq_true rfl) ?_
    rintro _ W2 ⟨rfl, hM2, h2⟩
    refine Ew.istore hx dX12_command_189 (by decide) rfl ?_
    refine Ew.aload_n hx dX12_command_191 rfl ?_
    refine Ew.dup hx dX12_command_192 rfl ?_
    refine Ew.getI hx dX12_command_193 fg_RX12_177 rfl ?_
    refine Ew.iload hx dX12_command_196 rfl ?_
    refine Ew.ldc hx dX12_command_198 kn_RX12_200 ?_
    have e2 : W2 532 = W 532 := (h2 532 (by decide) (by decide)).trans (h1 532 (by decide))
    have e15b : W2 532 15 = nI c := by rw [e2, hF.2.2, e15]
    have hlen : ∀ x : Int32, MT2 (mup W2 532 15 x) tx ln := fun x => ⟨by rw [mup_oth _ _ _ _ (Or.inr (by decide)), e2]; exact hK.1.1, hK.1.2.1, fun j hj => by rw [mup_ne _ _ _ (by decide), h2 537 (by decide) (by decide), h1 537 (by decide)]; exact hK.1.2.2 j hj⟩
    refine Ew.icmp_ge_t hx (tgt := 207) dX12_command_200 rfl (anW_b hWF _ hw hc) ?_
    refine Ew.iconst hx dX12_command_207 k_iconst_1 ?_
    rw [e15b]
    refine Ew.iadd hx dX12_command_208 ?_
    rw [nI_1]
    refine Ew.putI hx dX12_command_209 pg_RX12_177 rfl ?_
    refine Ew.aload_n hx dX12_command_212 rfl ?_
    refine Ew.callV2 (y' := mX12_next) hx dX12_command_213 ml_RX12_193 cf_X12_next cv_X12_next (ct_X12_next G _ (hlen _) (tE_le (tx := tx) hK.2.1).2.1 (by rw [mup_oth _ _ _ _ (Or.inr (by decide)), e2]; exact hK.2.2.2.2)) rfl oc_19 rfl (by decide) (by decide) rfl (Nat.le_of_ble_eq_true rfl) ?_
    rintro _ W4 ⟨rfl, hN4, hK4⟩
    refine Ew.vret hx hq dX12_command_216 rfl ?_
    subst hr
    have hW4 : ∀ j, j ≠ 532 → j ≠ 533 → j ≠ 536 → W4 j = W j := fun j a1 a2 a3 => by rw [hN4.1 j a1, mup_ne _ _ _ a1, h2 j a2 a3, h1 j a3]
    have hW5 : ∀ j, j < 11 ∨ j = 14 → W4 532 j = W 532 j := fun j hj => by rw [hN4.2 j (by omega), mup_oth _ _ _ _ (Or.inr (by omega)), e2]
    refine ⟨rfl, fun j hj => (hW4 j (by omega) (by omega) (by omega)).trans (hF.1 j (by omega) (by omega) (by omega)), fun j hj => (hW5 j (by omega)).trans (hF.2.1 j hj), Or.inl ⟨hw, hc0, ?_, hK4, rfl, hW4 538 (by decide) (by decide) (by decide), ?_, ?_⟩⟩
    · rw [e8] at hM2
      exact hM2.fr (by rw [hN4.1 533 (by decide), mup_ne _ _ _ (by decide)])
    · exact hN.tr ⟨hW5 14 (by omega), hW5 10 (by omega), hW4 539 (by decide) (by decide) (by decide)⟩
    · rw [hN4.2 15 (by omega), mup_self]
  · have hcn : ¬ cdW u (W 538) w = 0 := fun q => h139 (by rw [q]; decide)
    refine Ew.aload_n hx dX12_command_142 rfl ?_
    refine Ew.iload_n hx dX12_command_143 rfl ?_
    refine Ew.ldc hx dX12_command_144 kn_RX12_69 ?_
    refine Ew.icmp_ne hx (tgt := 153) dX12_command_146 rfl (fun h146 => ?_) (fun h146 => ?_)
    · have hk : (3 : Int32) = cif (cdW u (W 538) w = -100001) 2 3 := (cif_f h146).symm
      refine Ew.iconst hx dX12_command_153 k_iconst_3 ?_
      refine Ew.iload_n hx dX12_command_154 rfl ?_
      refine Ew.iload_n hx dX12_command_155 rfl ?_
      refine Ew.callV2 (y' := mX12_fail) hx dX12_command_156 ml_RX12_201 cf_X12_fail cv_X12_fail (ct_X12_fail G W1 _ _ _) rfl oc_19 rfl (by decide) (by decide) rfl (Nat.le_of_ble_eq_true rfl) ?_
      rintro _ V9 ⟨rfl, hf⟩
      refine Ew.vret hx hq dX12_command_159 rfl ?_
      have e532 : W1 532 = W 532 := h1 532 (by decide)
      obtain ⟨f1, f2, f3, f4, f5, f6, f7⟩ := hf
      subst hr
      refine ⟨rfl, fun j hj => ?_, fun j hj => ?_, Or.inr (Or.inl ⟨hw, hcn, hMW.fr ?_, ?_⟩)⟩
      · rw [f1 j (by omega) (by omega), h1 j (by omega)]; exact hF.1 j (by omega) (by omega) (by omega)
      · rw [f2, upd_n _ _ (by omega), upd_n _ _ (by omega), e532]; exact hF.2.1 j hj
      · rw [f1 533 (by decide) (by decide), h1 533 (by decide)]
      · refine ⟨by rw [f2, upd_n _ _ (by decide), upd_s], by rw [f2, upd_s], f3.trans hk, f4, ?_, f6, ?_⟩
        · exact f5.trans (congrArg (fun z : Int32 => (cif (z = 1) 1 2 : Int32)) hk)
        · rw [f7, e532, hF.2.2, e15]
    · have hk : (2 : Int32) = cif (cdW u (W 538) w = -100001) 2 3 := (cif_t h146).symm
      refine Ew.iconst hx dX12_command_149 k_iconst_2 ?_
      refine Ew.goto hx (tgt := 154) dX12_command_150 rfl ?_
      refine Ew.iload_n hx dX12_command_154 rfl ?_
      refine Ew.iload_n hx dX12_command_155 rfl ?_
      refine Ew.callV2 (y' := mX12_fail) hx dX12_command_156 ml_RX12_201 cf_X12_fail cv_X12_fail (ct_X12_fail G W1 _ _ _) rfl oc_19 rfl (by decide) (by decide) rfl (Nat.le_of_ble_eq_true rfl) ?_
      rintro _ V9 ⟨rfl, hf⟩
      refine Ew.vret hx hq dX12_command_159 rfl ?_
      have e532 : W1 532 = W 532 := h1 532 (by decide)
      obtain ⟨f1, f2, f3, f4, f5, f6, f7⟩ := hf
      subst hr
      refine ⟨rfl, fun j hj => ?_, fun j hj => ?_, Or.inr (Or.inl ⟨hw, hcn, hMW.fr ?_, ?_⟩)⟩
      · rw [f1 j (by omega) (by omega), h1 j (by omega)]; exact hF.1 j (by omega) (by omega) (by omega)
      · rw [f2, upd_n _ _ (by omega), upd_n _ _ (by omega), e532]; exact hF.2.1 j hj
      · rw [f1 533 (by decide) (by decide), h1 533 (by decide)]
      · refine ⟨by rw [f2, upd_n _ _ (by decide), upd_s], by rw [f2, upd_s], f3.trans hk, f4, ?_, f6, ?_⟩
        · exact f5.trans (congrArg (fun z : Int32 => (cif (z = 1) 1 2 : Int32)) hk)
        · rw [f7, e532, hF.2.2, e15]
set_option maxHeartbeats 4000000 in
set_option maxRecDepth 100000 in
theorem lp_X12_cmd {G : GT} {C : CT} {V : Mm} {tx : Tx} {ln a c : Nat} {u : Sv} {r : RT} {B : Int} {w : Nat} (hw : w < 7) (hM : MR V u) (hWF : WF u B) (e14 : V 532 14 = 1) (e15 : V 532 15 = nI c) (hx : Cx G mX12_command 6 C) (hq : Cq G (CMQ V tx ln u r a c) C) : ∀ (n i : Nat), i + n = nmN w → ∀ (W : Mm) (b : Nat), FMf V W → NFl V W → TK W tx ln b → rdN tx ln w n i b (tE tx ln b) (W 538) = r → Ew G C (W) 34 [some (adr G 532), some (.int (nI a)), some (.int (nI w)), some (.int (nI i)), none] [] := by
  intro n
  induction n with
  | zero =>
    intro i hi W b hF hN hK hr
    have hm := (nmN_v hw).2
    refine Ew.iload_n hx dX12_command_34 rfl ?_
    refine Ew.iload_n hx dX12_command_35 rfl ?_
    refine Ew.callS (y' := mX12_numbersOf) hx dX12_command_36 ml_RX12_208 cf_X12_numbersOf cs_X12_numbersOf (ct_X12_numbersOf G W hw) rfl (by decide) (by decide) rfl (Nat.le_of_ble_eq_true rfl) ?_
    rintro _ V9 ⟨rfl, h9⟩; subst V9
    refine Ew.icmp_ge_t hx (tgt := 61) dX12_command_39 rfl (nI_le (by omega) (by omega)) ?_
    refine Ew.aload_n hx dX12_command_61 rfl ?_
    refine Ew.getI hx dX12_command_62 fg_RX12_170 rfl ?_
    refine Ew.if_eq_f hx (tgt := 100) dX12_command_65 rfl (by rw [hN.1, e14]; decide) ?_
    refine Ew.aload_n hx dX12_command_68 rfl ?_
    refine Ew.getI hx dX12_command_69 fg_RX12_167 rfl ?_
    refine Ew.iconst hx dX12_command_72 k_iconst_3 ?_
    have h3 : tkK tx ln b < 4 := by
      unfold tkK
      split
      · have := kC_123 (tx b); omega
      · omega
    have hl := hK.1.2.1
    have hbl := hK.2.1
    have hop := op_ok (tx := tx) (ln := ln) (a := b) (q := 1) (c := 59) rfl rfl (by decide) hK.2.1
    rw [hK.2.2.1]
    refine Ew.icmp_ne hx (tgt := 89) dX12_command_73 rfl (fun h73 => ?_) (fun h73 => ?_)
    · have hng : ¬ isTk tx b (tE tx ln b) 1 := fun q => h73 (by rw [(hop.mp q).1]; rfl)
      refine Ew.aload_n hx dX12_command_89 rfl ?_
      refine Ew.iconst hx dX12_command_90 k_iconst_1 ?_
      refine Ew.aload_n hx dX12_command_91 rfl ?_
      refine Ew.getI hx dX12_command_92 fg_RX12_161 rfl ?_
      refine Ew.ldc hx dX12_command_95 kn_RX12_200 ?_
      rw [hK.2.2.2.1]
      refine Ew.callV2 (y' := mX12_fail) hx dX12_command_97 ml_RX12_201 cf_X12_fail cv_X12_fail (ct_X12_fail G W _ _ _) rfl oc_19 rfl (by decide) (by decide) rfl (Nat.le_of_ble_eq_true rfl) ?_
      rintro _ V9 ⟨rfl, hf⟩
      first
        | exact cmd_ok hw hM hWF e14 e15 hF hN hK ((cif_t hyt).symm.trans hr) hx hq
        | exact cmd_x (fail_q hF hf).2.1 (cmq_bad hM ((cif_f hng).symm.trans hr) (fail_q hF hf) e15) hx hq
    · have k3 : tkK tx ln b = 3 := (nI_eq (a := tkK tx ln b) (b := 3) (by omega) (by omega)).mp h73
      refine Ew.aload_n hx dX12_command_76 rfl ?_
      refine Ew.aload_n hx dX12_command_77 rfl ?_
      refine Ew.getI hx dX12_command_78 fg_RX12_161 rfl ?_
      rw [hK.2.2.2.1]
      refine Ew.callV2 (y' := mX12_at) hx dX12_command_81 ml_RX12_164 cf_X12_at cv_X12_at (ct_X12_at G W hK.1 (i := b) (by omega)) rfl oc_19 rfl (by decide) (by decide) rfl (Nat.le_of_ble_eq_true rfl) ?_
      rintro _ V9 ⟨rfl, h9⟩; subst V9
      refine Ew.bipush hx dX12_command_84 k_bipush_59 ?_
      refine Ew.icmp_eq hx (tgt := 100) dX12_command_86 rfl (fun h86 => ?_) (fun h86 => ?_)
      · have hyt : isTk tx b (tE tx ln b) 1 := hop.mpr ⟨k3, h86⟩
        first
          | exact cmd_ok hw hM hWF e14 e15 hF hN hK ((cif_t hyt).symm.trans hr) hx hq
          | exact cmd_x (fail_q hF hf).2.1 (cmq_bad hM ((cif_f hng).symm.trans hr) (fail_q hF hf) e15) hx hq
      · have hng : ¬ isTk tx b (tE tx ln b) 1 := fun q => h86 (hop.mp q).2
        refine Ew.aload_n hx dX12_command_89 rfl ?_
        refine Ew.iconst hx dX12_command_90 k_iconst_1 ?_
        refine Ew.aload_n hx dX12_command_91 rfl ?_
        refine Ew.getI hx dX12_command_92 fg_RX12_161 rfl ?_
        refine Ew.ldc hx dX12_command_95 kn_RX12_200 ?_
        rw [hK.2.2.2.1]
        refine Ew.callV2 (y' := mX12_fail) hx dX12_command_97 ml_RX12_201 cf_X12_fail cv_X12_fail (ct_X12_fail G W _ _ _) rfl oc_19 rfl (by decide) (by decide) rfl (Nat.le_of_ble_eq_true rfl) ?_
        rintro _ V9 ⟨rfl, hf⟩
        first
          | exact cmd_ok hw hM hWF e14 e15 hF hN hK ((cif_t hyt).symm.trans hr) hx hq
          | exact cmd_x (fail_q hF hf).2.1 (cmq_bad hM ((cif_f hng).symm.trans hr) (fail_q hF hf) e15) hx hq
  | succ n ih =>
    intro i hi W b hF hN hK hr
    have hm := (nmN_v hw).2
    refine Ew.iload_n hx dX12_command_34 rfl ?_
    refine Ew.iload_n hx dX12_command_35 rfl ?_
    refine Ew.callS (y' := mX12_numbersOf) hx dX12_command_36 ml_RX12_208 cf_X12_numbersOf cs_X12_numbersOf (ct_X12_numbersOf G W hw) rfl (by decide) (by decide) rfl (Nat.le_of_ble_eq_true rfl) ?_
    rintro _ V9 ⟨rfl, h9⟩; subst V9
    refine Ew.icmp_ge_f hx (tgt := 61) dX12_command_39 rfl (nI_ge (by omega) (by omega)) ?_
    refine Ew.aload_n hx dX12_command_42 rfl ?_
    refine Ew.getI hx dX12_command_43 fg_RX12_170 rfl ?_
    refine Ew.if_eq_f hx (tgt := 61) dX12_command_46 rfl (by rw [hN.1, e14]; decide) ?_
    refine Ew.aload_n hx dX12_command_49 rfl ?_
    refine Ew.iload_n hx dX12_command_50 rfl ?_
    refine Ew.iload_n hx dX12_command_51 rfl ?_
    refine Ew.callV2 (y' := mX12_readNumber) hx dX12_command_52 ml_RX12_211 cf_X12_readNumber cv_X12_readNumber (ct_X12_readNumber G W hw (k := i) (by omega) hK) rfl oc_19 rfl (by decide) (by decide) rfl (Nat.le_of_ble_eq_true rfl) ?_
    rintro _ W9 ⟨rfl, hF9, h9⟩
    refine Ew.iinc hx dX12_command_55 rfl (k_iinc_1 _) (by decide) rfl ?_
    refine Ew.goto hx (tgt := 34) dX12_command_58 rfl ?_
    have hm := (nmN_v hw).2
    rw [nI_1]
    have hr2 := rdN_s.symm.trans hr
    rcases h9 with ⟨hz, hL⟩ | ⟨hz, hN9, hK9, e9⟩
    · have hq9 := hF.tr hF9
      rw [hF.2.2] at hL
      exact cmd_f hw hL.1 (cmq_bad hM ((cif_t hz).symm.trans hr2) ⟨hq9, hL⟩ e15) hx hq
    · refine ih (i + 1) (by omega) _ _ (hF.tr hF9) (hN.tr hN9) hK9 ?_
      rw [e9]
      exact (cif_f hz).symm.trans hr2
set_option maxHeartbeats 4000000 in
set_option maxRecDepth 100000 in
theorem ct_X12_command (G : GT) (V : Mm) {tx : Tx} {ln a c : Nat} {u : Sv} {B : Int} (hM : MR V u) (hWF : WF u B) (hK : TK V tx ln a) (ha : a < ln) (e14 : V 532 14 = 1) (e15 : V 532 15 = nI c) : Ct G mX12_command 6 [adr G 532] (V) (CMQ V tx ln u (rdC tx ln a (tE tx ln a) (V 538)) a c) := by
  refine Ct.of cf_X12_command (List.forall_mem_cons.mpr ⟨rfl, fun _ h => absurd h List.not_mem_nil⟩) (Nat.le_of_ble_eq_true rfl) (l0 := [some (adr G 532), none, none, none, none]) rfl (fun C hx hq => ?_)
  refine Ew.aload_n hx dX12_command_0 rfl ?_
  refine Ew.getI hx dX12_command_1 fg_RX12_161 rfl ?_
  rw [hK.2.2.2.1]
  refine Ew.istore_n hx dX12_command_4 (by decide) rfl ?_
  refine Ew.aload_n hx dX12_command_5 rfl ?_
  refine Ew.callV2 (y' := mX12_wordHere) hx dX12_command_6 ml_RX12_204 cf_X12_wordHere cv_X12_wordHere (ct_X12_wordHere G V hK ha) rfl oc_19 rfl (by decide) (by decide) rfl (Nat.le_of_ble_eq_true rfl) ?_
  rintro _ V9 ⟨rfl, h9⟩; subst V9
  refine Ew.istore_n hx dX12_command_9 (by decide) rfl ?_
  refine Ew.iload_n hx dX12_command_10 rfl ?_
  refine Ew.bipush hx dX12_command_11 k_bipush_7 ?_
  have hc7 := cmI_le tx a (tE tx ln a)
  refine Ew.icmp_ne hx (tgt := 28) dX12_command_13 rfl (fun h13 => ?_) (fun h13 => ?_)
  · have hw : cmI tx a (tE tx ln a) < 7 := by
      have q : cmI tx a (tE tx ln a) ≠ 7 := fun q => h13 (by rw [q]; rfl)
      omega
    refine Ew.aload_n hx dX12_command_28 rfl ?_
    refine Ew.callV2 (y' := mX12_next) hx dX12_command_29 ml_RX12_193 cf_X12_next cv_X12_next (ct_X12_next G V hK.1 (tE_le (tx := tx) hK.2.1).2.1 hK.2.2.2.2) rfl oc_19 rfl (by decide) (by decide) rfl (Nat.le_of_ble_eq_true rfl) ?_
    rintro _ V1 ⟨rfl, hN1, hK1⟩
    refine Ew.iconst hx dX12_command_32 k_iconst_0 ?_
    refine Ew.istore_n hx dX12_command_33 (by decide) rfl ?_
    refine lp_X12_cmd hw hM hWF e14 e15 hx hq (nmN (cmI tx a (tE tx ln a))) 0 (by omega) _ _ ((FMf.rf V).nx hN1) (NFl.nx ⟨rfl, rfl, rfl⟩ hN1) hK1 ?_
    rw [hN1.1 538 (by decide)]
    exact (cif_t hw).symm
  · have hw : cmI tx a (tE tx ln a) = 7 := (nI_eq (a := cmI tx a (tE tx ln a)) (b := 7) (by omega) (by omega)).mp h13
    have hr : (7, a, tE tx ln a, V 538) = rdC tx ln a (tE tx ln a) (V 538) := (cif_f (by omega)).symm
    refine Ew.aload_n hx dX12_command_16 rfl ?_
    refine Ew.iconst hx dX12_command_17 k_iconst_1 ?_
    refine Ew.aload_n hx dX12_command_18 rfl ?_
    refine Ew.getI hx dX12_command_19 fg_RX12_161 rfl ?_
    refine Ew.ldc hx dX12_command_22 kn_RX12_200 ?_
    rw [hK.2.2.2.1]
    refine Ew.callV2 (y' := mX12_fail) hx dX12_command_24 ml_RX12_201 cf_X12_fail cv_X12_fail (ct_X12_fail G V _ _ _) rfl oc_19 rfl (by decide) (by decide) rfl (Nat.le_of_ble_eq_true rfl) ?_
    rintro _ V9 ⟨rfl, hf⟩
    refine Ew.vret hx hq dX12_command_27 rfl ?_
    exact cmq_bad hM hr (fail_q (FMf.rf V) hf) e15
