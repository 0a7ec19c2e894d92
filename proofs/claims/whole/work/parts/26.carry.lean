abbrev RR : Type := Int32 × Int32 × Int32 × Nat × Sv
/-- what running a text comes to: the failure's kind (0 for none), its place, its cause, the commands carried out, the season -/
noncomputable def rnP (tx : Tx) (ln : Nat) : Nat → Sv → Nat → Nat → (Nat → Int32) → Nat → RR
  | 0, s, _, _, _, i => (0, 0, 0, i, s)
  | n + 1, s, a, b, N, i => cif (ln ≤ a) (0, 0, 0, i, s)
      (cif ((rdC tx ln a b N).1 < 7)
        (cif (cdW s (rdC tx ln a b N).2.2.2 (rdC tx ln a b N).1 = 0)
          (rnP tx ln n (nxW s (rdC tx ln a b N).2.2.2 (rdC tx ln a b N).1) (rdC tx ln a b N).2.1 (rdC tx ln a b N).2.2.1 (rdC tx ln a b N).2.2.2 (i + 1))
          (cif (cdW s (rdC tx ln a b N).2.2.2 (rdC tx ln a b N).1 = -100001) 2 3, nI a, cdW s (rdC tx ln a b N).2.2.2 (rdC tx ln a b N).1, i, s))
        (1, nI (rdC tx ln a b N).2.1, -100009, i, s))
noncomputable def rnA (r : RR) : Int32 := cif (r.1 = 0) (nI r.2.2.2.1) (-1000 - r.2.1)
def JF (V W : Mm) : Prop := (∀ k, k < 2 ∨ 26 ≤ k → k ≠ 529 → k ≠ 531 → W k = V k) ∧ ∀ i, i ≠ 2 → i ≠ 3 → W 529 i = V 529 i
def RnQ (V : Mm) (s : Sv) (B : Int) (r : RR) : PT := fun v V9 => v = some (.int (rnA r)) ∧ Rep V9 2 r.2.2.2.2 ∧ WF r.2.2.2.2 (B + 2100000) ∧ (∀ m, 193 ≤ m → r.2.2.2.2 m = s m) ∧ (∀ k, k < 2 ∨ 26 ≤ k → k ≠ 528 → k ≠ 529 → k ≠ 531 → V9 k = V k) ∧ (∀ i, i ≠ 2 → i ≠ 3 → V9 529 i = V 529 i) ∧ ((r.1 = 0 ∧ V9 528 = V 528 ∧ ∃ i, i ≤ 140 ∧ rnA r = nI i) ∨ (r.1 ≠ 0 ∧ V9 528 = upd (upd (upd (upd (V 528) 2 r.1) 3 r.2.1) 4 r.2.2.1) 5 (nI r.2.2.2.1) ∧ ∃ a, a ≤ 140 ∧ rnA r = -1000 - nI a))
theorem JF.rf (V : Mm) : JF V V := ⟨fun _ _ _ _ => rfl, fun _ _ _ => rfl⟩
theorem JF.wP {V W : Mm} (h : JF V W) (a b : Nat) (N : Nat → Int32) : JF V (wP W a b N) := ⟨fun k h1 h2 h3 => by rw [wP_o _ _ _ _ ⟨h2, h3⟩]; exact h.1 k h1 h2 h3, fun i h2 h3 => by rw [wP_p _ _ _ _ ⟨h2, h3⟩]; exact h.2 i h2 h3⟩
theorem JF.fr {V W W' : Mm} (h : JF V W) (hF : Fr 2 26 W W') : JF V W' := ⟨fun k h1 h2 h3 => by rw [hF k h1]; exact h.1 k h1 h2 h3, fun i h2 h3 => by rw [hF 529 (by decide)]; exact h.2 i h2 h3⟩
theorem JF.T {V W : Mm} {tx : Tx} {ln : Nat} (h : JF V W) (hT : TX V tx ln) : TX W tx ln := ⟨by rw [h.2 1 (by decide) (by decide)]; exact hT.1, hT.2.1, fun i hi => by rw [h.1 530 (by decide) (by decide) (by decide)]; exact hT.2.2 i hi⟩
theorem wP_self {W : Mm} {a b : Nat} {N : Nat → Int32} (e2 : W 529 2 = nI a) (e3 : W 529 3 = nI b) (eN : W 531 = N) : W = wP W a b N := wP_ext eN e2 e3 (fun _ _ _ => rfl) (fun _ _ _ => rfl)
theorem RnQ.ok {V W : Mm} {s u : Sv} {B : Int} {r : RR} {i : Nat} (hr : (0, 0, 0, i, u) = r) (hi : i ≤ 140) (hR : Rep W 2 u) (hW : WF u (B + 15000 * i)) (hm : ∀ m, 193 ≤ m → u m = s m) (hJ : JF V W) : RnQ V s B r (some (.int (nI i))) W := by
  subst hr
  exact ⟨congrArg (fun z => some (Value.int z)) (show nI i = rnA (0, 0, 0, i, u) from (cif_t rfl).symm), hR, hW.mono (by omega), hm, fun k h1 h2 h3 h4 => hJ.1 k h1 h3 h4, hJ.2, Or.inl ⟨rfl, hJ.1 528 (by decide) (by decide) (by decide), i, hi, cif_t rfl⟩⟩
theorem RnQ.bad {V W : Mm} {s u : Sv} {B : Int} {r : RR} {i a : Nat} {k c : Int32} (hk : k ≠ 0) (hr : (k, nI a, c, i, u) = r) (hi : i ≤ 140) (ha : a ≤ 140) (hR : Rep W 2 u) (hW : WF u (B + 15000 * i)) (hm : ∀ m, 193 ≤ m → u m = s m) (hJ : JF V W) : RnQ V s B r (some (.int (-1000 - nI a))) (mup (mup (mup (mup W 528 2 k) 528 3 (nI a)) 528 4 c) 528 5 (nI i)) := by
  subst hr
  have e : rnA (k, nI a, c, i, u) = -1000 - nI a := cif_f hk
  refine ⟨by rw [e], hR.frame (fun q h1 h2 => by rw [mup_ne _ _ _ (by omega), mup_ne _ _ _ (by omega), mup_ne _ _ _ (by omega), mup_ne _ _ _ (by omega)]), hW.mono (by omega), hm, fun q h1 h2 h3 h4 => ?_, fun j h2 h3 => ?_, Or.inr ⟨hk, ?_, a, ha, e⟩⟩
  · rw [mup_ne _ _ _ h2, mup_ne _ _ _ h2, mup_ne _ _ _ h2, mup_ne _ _ _ h2]; exact hJ.1 q h1 h3 h4
  · rw [mup_ne _ _ _ (by decide), mup_ne _ _ _ (by decide), mup_ne _ _ _ (by decide), mup_ne _ _ _ (by decide)]; exact hJ.2 j h2 h3
  · rw [mup_same, mup_same, mup_same, mup_same, hJ.1 528 (by decide) (by decide) (by decide)]
theorem rdN_ok (tx : Tx) {ln w : Nat} : ∀ (n i a b : Nat) (N : Nat → Int32), a ≤ b → b ≤ ln → (rdN tx ln w n i a b N).2.1 ≤ (rdN tx ln w n i a b N).2.2.1 ∧ (rdN tx ln w n i a b N).2.2.1 ≤ ln
  | 0, i, a, b, N, ha, hb => by
    unfold rdN
    have q := tE_le (tx := tx) (sK_le (tx := tx) hb).2
    by_cases h : isTk tx a b 1
    · rw [cif_t h]; exact ⟨q.1, q.2.1⟩
    · rw [cif_f h]; exact ⟨ha, hb⟩
  | n + 1, i, a, b, N, ha, hb => by
    unfold rdN
    have q := tE_le (tx := tx) (sK_le (tx := tx) hb).2
    have q2 := tE_le (tx := tx) (sK_le (tx := tx) q.2.1).2
    by_cases h : ngP tx w i a b
    · rw [cif_t h]
      by_cases h2 : numI tx ln (sK tx ln b) (tE tx ln (sK tx ln b)) = -1
      · rw [cif_t h2]; exact ⟨q.1, q.2.1⟩
      · rw [cif_f h2]; exact rdN_ok tx n (i + 1) _ _ _ q2.1 q2.2.1
    · rw [cif_f h]
      by_cases h2 : numI tx ln a b = -1
      · rw [cif_t h2]; exact ⟨ha, hb⟩
      · rw [cif_f h2]; exact rdN_ok tx n (i + 1) _ _ _ q.1 q.2.1
theorem rdC_ok (tx : Tx) {ln a b : Nat} (N : Nat → Int32) (ha : a ≤ b) (hb : b ≤ ln) : (rdC tx ln a b N).2.1 ≤ (rdC tx ln a b N).2.2.1 ∧ (rdC tx ln a b N).2.2.1 ≤ ln := by
  unfold rdC
  have q := tE_le (tx := tx) (sK_le (tx := tx) hb).2
  by_cases h : cmI tx a b < 7
  · rw [cif_t h]; exact rdN_ok tx _ _ _ _ _ q.1 q.2.1
  · rw [cif_f h]; exact ⟨ha, hb⟩
set_option maxHeartbeats 4000000 in
set_option maxRecDepth 100000 in
theorem lp_X5_carry {G : GT} {C : CT} {V : Mm} {tx : Tx} {ln : Nat} (hT : TX V tx ln) {s : Sv} {B : Int} {r : RR} (hB0 : 0 ≤ B) (hB : B + 2100000 < 2147483648) (hx : Cx G mX5_carryOut 7 C) (hq : Cq G (RnQ V s B r) C) : ∀ (n i : Nat), i + n = 140 → ∀ (W : Mm) (u : Sv) (a b : Nat) (N : Nat → Int32), a ≤ b → b ≤ ln → W 529 2 = nI a → W 529 3 = nI b → W 531 = N → Rep W 2 u → WF u (B + 15000 * (i : Int)) → (∀ m, 193 ≤ m → u m = s m) → JF V W → rnP tx ln n u a b N i = r → Ew G C (W) 9 [some (adr G 528), some (adr G 2), some (.int (nI i)), none, none, none, none] [] := by
  intro n
  induction n with
  | zero =>
    intro i hi W u a b N ha hb e2 e3 eN hR hW hm hJ hs
    refine Ew.iload_n hx dX5_carryOut_9 rfl ?_
    refine Ew.sipush hx dX5_carryOut_10 k_sipush_140 ?_
    refine Ew.icmp_ge_t hx (tgt := 109) dX5_carryOut_13 rfl (nI_le (a := 140) (b := i) (by omega) (by omega)) ?_
    refine Ew.iload_n hx dX5_carryOut_109 rfl ?_
    refine Ew.iret hx hq dX5_carryOut_110 rfl ?_
    exact RnQ.ok hs (by omega) hR hW hm hJ
  | succ n ih =>
    intro i hi W u a b N ha hb e2 e3 eN hR hW hm hJ hs
    have hl := hT.2.1
    have hTW := hJ.T hT
    refine Ew.iload_n hx dX5_carryOut_9 rfl ?_
    refine Ew.sipush hx dX5_carryOut_10 k_sipush_140 ?_
    refine Ew.icmp_ge_f hx (tgt := 109) dX5_carryOut_13 rfl (nI_ge (a := i) (b := 140) (by omega) (by omega)) ?_
    refine Ew.aload_n hx dX5_carryOut_16 rfl ?_
    refine Ew.getR (529) hx dX5_carryOut_17 fg_RX5_12 rfl rfl ?_
    refine Ew.callV2 (y' := mX9_isAtEnd) hx dX5_carryOut_20 ml_RX5_29 cf_X9_isAtEnd cv_X9_isAtEnd (ct_X9_isAtEnd G W hTW (a := a) (by omega) e2) rfl oc_16 rfl (by decide) (by decide) rfl (Nat.le_of_ble_eq_true rfl) ?_
    rintro _ V9 ⟨rfl, h9⟩; subst V9
    refine Ew.ifne_b hx (tgt := 109) dX5_carryOut_23 rfl (fun h23 => ?_) (fun h23 => ?_)
    · have hr : _ = r := (cif_t h23).symm.trans hs
      refine Ew.iload_n hx dX5_carryOut_109 rfl ?_
      refine Ew.iret hx hq dX5_carryOut_110 rfl ?_
      exact RnQ.ok hr (by omega) hR hW hm hJ
    · have hr : _ = r := (cif_f h23).symm.trans hs
      refine Ew.aload_n hx dX5_carryOut_26 rfl ?_
      refine Ew.getR (529) hx dX5_carryOut_27 fg_RX5_12 rfl rfl ?_
      refine Ew.getI hx dX5_carryOut_30 fg_RX5_33 rfl ?_
      rw [e2]
      refine Ew.istore_n hx dX5_carryOut_33 (by decide) rfl ?_
      refine Ew.aload_n hx dX5_carryOut_34 rfl ?_
      rw [wP_self e2 e3 eN]
      refine Ew.callV2 (y' := mX5_readCommand) hx dX5_carryOut_35 ml_RX5_36 cf_X5_readCommand cv_X5_readCommand (ct_X5_readCommand G W hTW ha hb N) rfl oc_15 rfl (by decide) (by decide) rfl (Nat.le_of_ble_eq_true rfl) ?_
      rintro _ V9 ⟨rfl, h9⟩; subst V9
      have hrd := rdC_ok tx N ha hb
      have hR2 : Rep (wP W (rdC tx ln a b N).2.1 (rdC tx ln a b N).2.2.1 (rdC tx ln a b N).2.2.2) 2 u := hR.frame (fun k h1 h2 => wP_o _ _ _ _ (by omega))
      have hJ2 := hJ.wP (rdC tx ln a b N).2.1 (rdC tx ln a b N).2.2.1 (rdC tx ln a b N).2.2.2
      rcases Nat.lt_or_ge (rdC tx ln a b N).1 7 with hc | hc
      · rw [show cmV G (rdC tx ln a b N).1 = .ref (xE G (rdC tx ln a b N).1) from if_pos hc]
        refine Ew.astore hx dX5_carryOut_38 (by decide) rfl ?_
        refine Ew.aload hx dX5_carryOut_40 rfl ?_
        refine Ew.xnn hx dX5_carryOut_42 (tgt := 61) rfl ?_
        refine Ew.aload_n hx dX5_carryOut_61 rfl ?_
        refine Ew.aload hx dX5_carryOut_62 rfl ?_
        refine Ew.aload_n hx dX5_carryOut_64 rfl ?_
        refine Ew.callV2 (y' := mX5_perform) hx dX5_carryOut_65 ml_RX5_45 cf_X5_perform cv_X5_perform (ct_X5_perform G _ hR2 hW hc) rfl oc_15 rfl (by decide) (by decide) rfl (Nat.le_of_ble_eq_true rfl) ?_
        rintro v V9 h9; rw [wP_n] at h9
        have hr2 : _ = r := (cif_t hc).symm.trans hr
        have hk := ok_W (by omega) (by omega) hW (rdC tx ln a b N).2.2.2 hc
        rcases h9 with ⟨h0, rfl, rfl⟩ | ⟨h0, rfl, hR9, hF9⟩
        · have he : errP (cdW u (rdC tx ln a b N).2.2.2 (rdC tx ln a b N).1) := (cdW_e u (rdC tx ln a b N).2.2.2 hc).resolve_left (fun q => by rw [q] at h0; exact absurd h0 (by decide))
          replace hr2 := (cif_f (fun q => by rw [q] at h0; exact absurd h0 (by decide))).symm.trans hr2
          refine Ew.istore hx dX5_carryOut_68 (by decide) rfl ?_
          refine Ew.iload hx dX5_carryOut_70 rfl ?_
          refine Ew.callSN (y' := mX11_isError) hx dX5_carryOut_72 (host := RX11) (List.mem_of_getElem? (i := 10) rfl) cf_X11_isError cs_X11_isError (ct_X11_isError G _ _) rfl (by decide) (by decide) rfl (Nat.le_of_ble_eq_true rfl) ?_
          rintro _ V9 ⟨rfl, h9⟩; subst V9
          rw [b2i_t (he)]
          refine Ew.if_eq_f hx (tgt := 103) dX5_carryOut_75 rfl (by decide) ?_
          refine Ew.iload hx dX5_carryOut_78 rfl ?_
          refine Ew.ldc hx dX5_carryOut_80 kn_RX5_53 ?_
          refine Ew.icmp_ne hx (tgt := 89) dX5_carryOut_82 rfl (fun h82 => ?_) (fun h82 => ?_)
          · have hr3 := (congrArg (fun z : Int32 => (z, nI a, cdW u (rdC tx ln a b N).2.2.2 (rdC tx ln a b N).1, i, u)) (cif_f h82 (a := (2 : Int32)) (b := 3))).symm.trans hr2
            refine Ew.iconst hx dX5_carryOut_89 k_iconst_3 ?_
            refine Ew.istore hx dX5_carryOut_90 (by decide) rfl ?_
            refine Ew.aload_n hx dX5_carryOut_92 rfl ?_
            refine Ew.iload hx dX5_carryOut_93 rfl ?_
            refine Ew.iload_n hx dX5_carryOut_95 rfl ?_
            refine Ew.iload hx dX5_carryOut_96 rfl ?_
            refine Ew.iload_n hx dX5_carryOut_98 rfl ?_
            refine Ew.callV2 (y' := mX5_fail) hx dX5_carryOut_99 ml_RX5_41 cf_X5_fail cv_X5_fail (ct_X5_fail G _ _ _ _ _) rfl oc_15 rfl (by decide) (by decide) rfl (Nat.le_of_ble_eq_true rfl) ?_
            rintro _ V9 ⟨rfl, h9⟩; subst V9
            refine Ew.iret hx hq dX5_carryOut_102 rfl ?_
            exact RnQ.bad (by decide) hr3 (by omega) (by omega) hR2 hW hm hJ2
          · have hr3 := (congrArg (fun z : Int32 => (z, nI a, cdW u (rdC tx ln a b N).2.2.2 (rdC tx ln a b N).1, i, u)) (cif_t h82 (a := (2 : Int32)) (b := 3))).symm.trans hr2
            refine Ew.iconst hx dX5_carryOut_85 k_iconst_2 ?_
            refine Ew.goto hx (tgt := 90) dX5_carryOut_86 rfl ?_
            refine Ew.istore hx dX5_carryOut_90 (by decide) rfl ?_
            refine Ew.aload_n hx dX5_carryOut_92 rfl ?_
            refine Ew.iload hx dX5_carryOut_93 rfl ?_
            refine Ew.iload_n hx dX5_carryOut_95 rfl ?_
            refine Ew.iload hx dX5_carryOut_96 rfl ?_
            refine Ew.iload_n hx dX5_carryOut_98 rfl ?_
            refine Ew.callV2 (y' := mX5_fail) hx dX5_carryOut_99 ml_RX5_41 cf_X5_fail cv_X5_fail (ct_X5_fail G _ _ _ _ _) rfl oc_15 rfl (by decide) (by decide) rfl (Nat.le_of_ble_eq_true rfl) ?_
            rintro _ V9 ⟨rfl, h9⟩; subst V9
            refine Ew.iret hx hq dX5_carryOut_102 rfl ?_
            exact RnQ.bad (by decide) hr3 (by omega) (by omega) hR2 hW hm hJ2
        · skip
          refine Ew.istore hx dX5_carryOut_68 (by decide) rfl ?_
          refine Ew.iload hx dX5_carryOut_70 rfl ?_
          refine Ew.callSN (y' := mX11_isError) hx dX5_carryOut_72 (host := RX11) (List.mem_of_getElem? (i := 10) rfl) cf_X11_isError cs_X11_isError (ct_X11_isError G _ _) rfl (by decide) (by decide) rfl (Nat.le_of_ble_eq_true rfl) ?_
          rintro _ V9 ⟨rfl, h9⟩; subst V9
          rw [b2i_f (hk.1 h0)]
          refine Ew.if_eq_t hx (tgt := 103) dX5_carryOut_75 rfl (by decide) ?_
          refine Ew.iinc hx dX5_carryOut_103 rfl (k_iinc_1 _) (by decide) rfl ?_
          refine Ew.goto hx (tgt := 9) dX5_carryOut_106 rfl ?_
          rw [nI_1]
          exact Ew.drop 3 (Ew.drop 4 (Ew.drop 5 (ih (i + 1) (by omega) _ _ _ _ _ hrd.1 hrd.2 (by rw [hF9 529 (by decide), wP_a]) (by rw [hF9 529 (by decide), wP_b]) (by rw [hF9 531 (by decide), wP_n]) hR9 ((hk.2.1 h0).mono (by omega)) (fun m h1 => (hk.2.2 h0 m h1).trans (hm m h1)) (hJ2.fr hF9) ((cif_t h0).symm.trans hr2))))
      · rw [show cmV G (rdC tx ln a b N).1 = .null from if_neg (by omega)]
        show Ew G C (wP W (rdC tx ln a b N).2.1 (rdC tx ln a b N).2.2.1 (rdC tx ln a b N).2.2.2) 38 _ [Value.null]
        refine Ew.astoreN hx dX5_carryOut_38 (by decide) rfl ?_
        refine Ew.aloadN hx dX5_carryOut_40 rfl ?_
        refine Ew.xnnN hx dX5_carryOut_42 ?_
        refine Ew.aload_n hx dX5_carryOut_45 rfl ?_
        refine Ew.iconst hx dX5_carryOut_46 k_iconst_1 ?_
        refine Ew.aload_n hx dX5_carryOut_47 rfl ?_
        refine Ew.getR (529) hx dX5_carryOut_48 fg_RX5_12 rfl rfl ?_
        refine Ew.getI hx dX5_carryOut_51 fg_RX5_33 rfl ?_
        rw [wP_a]
        refine Ew.ldc hx dX5_carryOut_54 kn_RX5_40 ?_
        refine Ew.iload_n hx dX5_carryOut_56 rfl ?_
        refine Ew.callV2 (y' := mX5_fail) hx dX5_carryOut_57 ml_RX5_41 cf_X5_fail cv_X5_fail (ct_X5_fail G _ _ _ _ _) rfl oc_15 rfl (by decide) (by decide) rfl (Nat.le_of_ble_eq_true rfl) ?_
        rintro _ V9 ⟨rfl, h9⟩; subst V9
        refine Ew.iret hx hq dX5_carryOut_60 rfl ?_
        exact RnQ.bad (by decide) ((cif_f (by omega)).symm.trans hr) (by omega) (by omega) hR2 hW hm hJ2
set_option maxHeartbeats 4000000 in
set_option maxRecDepth 100000 in
theorem ct_X5_carryOut (G : GT) (V : Mm) {tx : Tx} {ln : Nat} (hT : TX V tx ln) {s : Sv} {B : Int} (hB0 : 0 ≤ B) (hB : B + 2100000 < 2147483648) (hR : Rep V 2 s) (hW : WF s B) : Ct G mX5_carryOut 7 [adr G 528, adr G 2] (V) (RnQ V s B (rnP tx ln 140 s (sK tx ln 0) (tE tx ln (sK tx ln 0)) (V 531) 0)) := by
  refine Ct.of cf_X5_carryOut (List.forall_mem_cons.mpr ⟨rfl, List.forall_mem_cons.mpr ⟨rfl, fun _ h => absurd h List.not_mem_nil⟩⟩) (Nat.le_of_ble_eq_true rfl) (l0 := [some (adr G 528), some (adr G 2), none, none, none, none, none]) rfl (fun C hx hq => ?_)
  refine Ew.iconst hx dX5_carryOut_0 k_iconst_0 ?_
  refine Ew.istore_n hx dX5_carryOut_1 (by decide) rfl ?_
  refine Ew.aload_n hx dX5_carryOut_2 rfl ?_
  refine Ew.getR (529) hx dX5_carryOut_3 fg_RX5_12 rfl rfl ?_
  refine Ew.callV2 (y' := mX9_rewind) hx dX5_carryOut_6 ml_RX5_26 cf_X9_rewind cv_X9_rewind (ct_X9_rewind G V hT) rfl oc_16 rfl (by decide) (by decide) rfl (Nat.le_of_ble_eq_true rfl) ?_
  rintro _ V9 ⟨rfl, h9⟩; subst V9
  have q := tE_le (tx := tx) (sK_le (tx := tx) (Nat.zero_le ln)).2
  exact lp_X5_carry hT hB0 hB hx hq 140 0 rfl _ _ _ _ _ q.1 q.2.1 (by rw [mup_oth _ _ _ _ (Or.inr (by decide)), mup_self]) (mup_self _ _ _ _) (by rw [mup_ne _ _ _ (by decide), mup_ne _ _ _ (by decide)]) (hR.frame (fun k h1 h2 => by rw [mup_ne _ _ _ (by omega), mup_ne _ _ _ (by omega)])) (hW.mono (by omega)) (fun _ _ => rfl) ⟨fun k h1 h2 h3 => by rw [mup_ne _ _ _ h2, mup_ne _ _ _ h2], fun i h2 h3 => by rw [mup_oth _ _ _ _ (Or.inr h3), mup_oth _ _ _ _ (Or.inr h2)]⟩ rfl
