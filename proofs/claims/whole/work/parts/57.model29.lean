theorem op_ok {tx : Tx} {ln a q : Nat} {c : Int32} (h1 : txN.getD q 0 = 1) (hc : lB q 0 = c) (hk : kC c = 3) (hal : a ≤ ln) : isTk tx a (tE tx ln a) q ↔ (tkK tx ln a = 3 ∧ atI tx ln a = c) := by
  have hl := tE_le (tx := tx) hal
  unfold isTk tkA
  rw [h1]
  refine ⟨fun ⟨e1, e2⟩ => ?_, fun ⟨e1, e2⟩ => ?_⟩
  · have ha : a < ln := by omega
    have e3 := e2 0 (by decide)
    rw [Nat.add_zero, hc] at e3
    refine ⟨tk_in ha (by rw [e3]; exact hk), (if_pos ha).trans e3⟩
  · have ha : a < ln := by
      rcases Nat.lt_or_ge a ln with z | z
      · exact z
      · rw [show tkK tx ln a = 0 from if_neg (by omega)] at e1
        exact absurd e1 (by decide)
    have e3 : tx a = c := (if_pos ha).symm.trans e2
    refine ⟨(if_pos ha).trans (if_pos (by rw [e3]; exact hk)), fun j hj => ?_⟩
    rw [show j = 0 by omega, Nat.add_zero, hc]
    exact e3
noncomputable def pA (tx : Tx) (ln w k a : Nat) : Nat := cif (ngP tx w k a (tE tx ln a)) (sK tx ln (tE tx ln a)) a
noncomputable def rvI (tx : Tx) (ln w k a : Nat) : Int32 := cif (ngP tx w k a (tE tx ln a)) (-numI tx ln (pA tx ln w k a) (tE tx ln (pA tx ln w k a))) (numI tx ln (pA tx ln w k a) (tE tx ln (pA tx ln w k a)))
def FMf (V W : Mm) : Prop := (∀ j, j ≠ 532 → j ≠ 538 → j ≠ 539 → W j = V j) ∧ (∀ i, i < 10 → W 532 i = V 532 i) ∧ W 532 15 = V 532 15
def FL (W : Mm) (k p c i : Int32) : Prop := W 532 14 = 0 ∧ W 532 10 = 1 ∧ W 539 0 = k ∧ W 539 1 = p ∧ W 539 2 = cif (k = 1) 1 2 ∧ W 539 3 = c ∧ W 539 4 = i
def NFl (V W : Mm) : Prop := W 532 14 = V 532 14 ∧ W 532 10 = V 532 10 ∧ W 539 = V 539
def RNQ (V : Mm) (tx : Tx) (ln k a : Nat) (rv : Int32) : PT := fun v V9 => v = none ∧ FMf V V9 ∧ ((numI tx ln a (tE tx ln a) = -1 ∧ FL V9 1 (nI a) (-100009) (V 532 15)) ∨ (¬ numI tx ln a (tE tx ln a) = -1 ∧ NFl V V9 ∧ TK V9 tx ln (sK tx ln (tE tx ln a)) ∧ V9 538 = upd (V 538) k rv))
theorem FMf.rf (V : Mm) : FMf V V := ⟨fun _ _ _ _ => rfl, fun _ _ => rfl, rfl⟩
theorem FMf.tr {V W U : Mm} (h : FMf V W) (g : FMf W U) : FMf V U := ⟨fun j a b c => (g.1 j a b c).trans (h.1 j a b c), fun i hi => (g.2.1 i hi).trans (h.2.1 i hi), g.2.2.trans h.2.2⟩
theorem FMf.nx {V W U : Mm} (h : FMf V W) (g : NXF W U) : FMf V U := ⟨fun j a b c => (g.1 j a).trans (h.1 j a b c), fun i hi => (g.2 i (by omega)).trans (h.2.1 i hi), (g.2 15 (by decide)).trans h.2.2⟩
theorem NFl.nx {V W U : Mm} (h : NFl V W) (g : NXF W U) : NFl V U := ⟨(g.2 14 (by decide)).trans h.1, by
  refine (g.2 10 (by decide)).trans h.2.1, (g.1 539 (by decide)).trans h.2.2⟩
theorem NFl.tr {V W U : Mm} (h : NFl V W) (g : NFl W U) : NFl V U := ⟨g.1.trans h.1, g.2.1.trans h.2.1, g.2.2.trans h.2.2⟩
theorem fail_q {V W V9 : Mm} {k p c : Int32} (hF : FMf V W) (hf : (∀ j, j ≠ 532 → j ≠ 539 → V9 j = W j) ∧ V9 532 = upd (upd (W 532) 14 0) 10 1 ∧ V9 539 0 = k ∧ V9 539 1 = p ∧ V9 539 2 = cif (k = 1) 1 2 ∧ V9 539 3 = c ∧ V9 539 4 = W 532 15) : FMf V V9 ∧ FL V9 k p c (V 532 15) := by
  obtain ⟨h1, h2, h3, h4, h5, h6, h7⟩ := hf
  refine ⟨⟨fun j a b d => (h1 j a d).trans (hF.1 j a b d), fun i hi => ?_, ?_⟩, ?_, ?_, h3, h4, h5, h6, h7.trans hF.2.2⟩
  · rw [h2, upd_n _ _ (by omega), upd_n _ _ (by omega)]; exact hF.2.1 i hi
  · rw [h2, upd_n _ _ (by decide), upd_n _ _ (by decide)]; exact hF.2.2
  · rw [h2, upd_n _ _ (by decide), upd_s]
  · rw [h2, upd_s]
set_option maxHeartbeats 4000000 in
set_option maxRecDepth 100000 in
theorem lp_rn {G : GT} {C : CT} {V : Mm} {W : Mm} {tx : Tx} {ln w k a : Nat} {rv sg : Int32} (hw : w < 7) (hk : k < nmN w) (hF : FMf V W) (hN : NFl V W) (hK : TK W tx ln a) (e8 : W 538 = V 538) (hnm : nmP tx ln a (tE tx ln a)) (hrv : rv = sg * nvF tx (tE tx ln a - a) a 0) (hx : Cx G mX12_readNumber 2 C) (hq : Cq G (RNQ V tx ln k a rv) C) : ∀ (n i : Nat), i + n = tE tx ln a → ∀ v : Int32, nvF tx n i v = nvF tx (tE tx ln a - a) a 0 → Ew G C (W) 65 [some (adr G 532), some (.int (nI w)), some (.int (nI k)), some (.int sg), some (.int v), some (.int (nI i))] [] := by
  intro n
  induction n with
  | zero =>
    intro i hi v hs
    have h4 := (nmN_v hw).2
    have hl := hK.1.2.1
    have hbl := (tE_le (tx := tx) hK.2.1).2.1
    refine Ew.iload hx dX12_readNumber_65 rfl ?_
    refine Ew.aload_n hx dX12_readNumber_67 rfl ?_
    refine Ew.getI hx dX12_readNumber_68 fg_RX12_158 rfl ?_
    rw [hK.2.2.2.2]
    refine Ew.icmp_ge_t hx (tgt := 97) dX12_readNumber_71 rfl (nI_le (by omega) (by omega)) ?_
    refine Ew.aload_n hx dX12_readNumber_97 rfl ?_
    refine Ew.getR (538) hx dX12_readNumber_98 fg_RX12_25 rfl rfl ?_
    refine Ew.iload_n hx dX12_readNumber_101 rfl ?_
    refine Ew.iload_n hx dX12_readNumber_102 rfl ?_
    refine Ew.iload hx dX12_readNumber_103 rfl ?_
    refine Ew.imul hx dX12_readNumber_105 ?_
    refine Ew.iast (i := k) hx dX12_readNumber_106 ag_18 rfl (rfl) (by omega) ?_
    refine Ew.aload_n hx dX12_readNumber_107 rfl ?_
    refine Ew.callV2 (y' := mX12_next) hx dX12_readNumber_108 ml_RX12_193 cf_X12_next cv_X12_next (ct_X12_next G _ (tx := tx) (ln := ln) (b := tE tx ln a) ⟨by rw [mup_ne _ _ _ (by decide)]; exact hK.1.1, hK.1.2.1, fun j hj => by rw [mup_ne _ _ _ (by decide)]; exact hK.1.2.2 j hj⟩ hbl (by rw [mup_ne _ _ _ (by decide)]; exact hK.2.2.2.2)) rfl oc_19 rfl (by decide) (by decide) rfl (Nat.le_of_ble_eq_true rfl) ?_
    rintro _ V9 ⟨rfl, hNx, hK9⟩
    refine Ew.vret hx hq dX12_readNumber_111 rfl ?_
    have hFW : FMf W (mup W 538 k (sg * v)) := ⟨fun j _ h2 _ => mup_ne _ _ _ h2, fun i _ => by rw [mup_ne _ _ _ (by decide)], by rw [mup_ne _ _ _ (by decide)]⟩
    have hNW : NFl W (mup W 538 k (sg * v)) := ⟨by rw [mup_ne _ _ _ (by decide)], by rw [mup_ne _ _ _ (by decide)], mup_ne _ _ _ (by decide)⟩
    refine ⟨rfl, (hF.tr hFW).nx hNx, Or.inr ⟨num_ok hnm, (hN.tr hNW).nx hNx, hK9, ?_⟩⟩
    rw [hNx.1 538 (by decide), mup_same, e8, hrv]
    rw [show v = nvF tx (tE tx ln a - a) a 0 from hs]
  | succ n ih =>
    intro i hi v hs
    have h4 := (nmN_v hw).2
    have hl := hK.1.2.1
    have hbl := (tE_le (tx := tx) hK.2.1).2.1
    refine Ew.iload hx dX12_readNumber_65 rfl ?_
    refine Ew.aload_n hx dX12_readNumber_67 rfl ?_
    refine Ew.getI hx dX12_readNumber_68 fg_RX12_158 rfl ?_
    rw [hK.2.2.2.2]
    refine Ew.icmp_ge_f hx (tgt := 97) dX12_readNumber_71 rfl (nI_ge (by omega) (by omega)) ?_
    refine Ew.bipush hx dX12_readNumber_74 k_bipush_10 ?_
    refine Ew.iload hx dX12_readNumber_76 rfl ?_
    refine Ew.imul hx dX12_readNumber_78 ?_
    refine Ew.aload_n hx dX12_readNumber_79 rfl ?_
    refine Ew.iload hx dX12_readNumber_80 rfl ?_
    refine Ew.callV2 (y' := mX12_at) hx dX12_readNumber_82 ml_RX12_164 cf_X12_at cv_X12_at (ct_X12_at G W hK.1 (i := i) (by omega)) rfl oc_19 rfl (by decide) (by decide) rfl (Nat.le_of_ble_eq_true rfl) ?_
    rintro _ V9 ⟨rfl, h9⟩; subst V9
    rw [show atI tx ln i = tx i from if_pos (by omega)]
    refine Ew.iadd hx dX12_readNumber_85 ?_
    refine Ew.bipush hx dX12_readNumber_86 k_bipush_48 ?_
    refine Ew.isub hx dX12_readNumber_88 ?_
    refine Ew.istore hx dX12_readNumber_89 (by decide) rfl ?_
    refine Ew.iinc hx dX12_readNumber_91 rfl (k_iinc_1 _) (by decide) rfl ?_
    refine Ew.goto hx (tgt := 65) dX12_readNumber_94 rfl ?_
    have h4 := (nmN_v hw).2
    have hl := hK.1.2.1
    have hbl := (tE_le (tx := tx) hK.2.1).2.1
    rw [nI_1]
    exact ih (i + 1) (by omega) _ (by rw [Int32.mul_comm 10 v]; exact hs)
set_option maxHeartbeats 4000000 in
set_option maxRecDepth 100000 in
theorem rn_2 {G : GT} {C : CT} {V W : Mm} {tx : Tx} {ln w k a : Nat} {rv sg : Int32} (hw : w < 7) (hk : k < nmN w) (hF : FMf V W) (hN : NFl V W) (hK : TK W tx ln a) (e8 : W 538 = V 538) (hrv : rv = sg * numI tx ln a (tE tx ln a)) (hx : Cx G mX12_readNumber 2 C) (hq : Cq G (RNQ V tx ln k a rv) C) : Ew G C W 37 [some (adr G 532), some (.int (nI w)), some (.int (nI k)), some (.int sg), none, none] [] := by
  refine Ew.aload_n hx dX12_readNumber_37 rfl ?_
  refine Ew.callV2 (y' := mX12_isNumber) hx dX12_readNumber_38 ml_RX12_196 cf_X12_isNumber cv_X12_isNumber (ct_X12_isNumber G W hK) rfl oc_19 rfl (by decide) (by decide) rfl (Nat.le_of_ble_eq_true rfl) ?_
  rintro _ V9 ⟨rfl, h9⟩; subst V9
  refine Ew.ifne_b hx (tgt := 56) dX12_readNumber_41 rfl (fun h41 => ?_) (fun h41 => ?_)
  · refine Ew.iconst hx dX12_readNumber_56 k_iconst_0 ?_
    refine Ew.istore hx dX12_readNumber_57 (by decide) rfl ?_
    refine Ew.aload_n hx dX12_readNumber_59 rfl ?_
    refine Ew.getI hx dX12_readNumber_60 fg_RX12_161 rfl ?_
    refine Ew.istore hx dX12_readNumber_63 (by decide) rfl ?_
    rw [num_v h41] at hrv
    rw [hK.2.2.2.1]
    exact lp_rn hw hk hF hN hK e8 h41 hrv hx hq (tE tx ln a - a) a (by have := (tE_le (tx := tx) hK.2.1).1; omega) _ rfl
  · refine Ew.aload_n hx dX12_readNumber_44 rfl ?_
    refine Ew.iconst hx dX12_readNumber_45 k_iconst_1 ?_
    refine Ew.aload_n hx dX12_readNumber_46 rfl ?_
    refine Ew.getI hx dX12_readNumber_47 fg_RX12_161 rfl ?_
    refine Ew.ldc hx dX12_readNumber_50 kn_RX12_200 ?_
    rw [hK.2.2.2.1]
    refine Ew.callV2 (y' := mX12_fail) hx dX12_readNumber_52 ml_RX12_201 cf_X12_fail cv_X12_fail (ct_X12_fail G W _ _ _) rfl oc_19 rfl (by decide) (by decide) rfl (Nat.le_of_ble_eq_true rfl) ?_
    rintro _ V9 ⟨rfl, hf⟩
    refine Ew.vret hx hq dX12_readNumber_55 rfl ?_
    have hq9 := fail_q hF hf
    exact ⟨rfl, hq9.1, Or.inl ⟨num_no h41, hq9.2⟩⟩
set_option maxHeartbeats 4000000 in
set_option maxRecDepth 100000 in
theorem ct_X12_readNumber (G : GT) (V : Mm) {tx : Tx} {ln w k a : Nat} (hw : w < 7) (hk : k < nmN w) (hK : TK V tx ln a) : Ct G mX12_readNumber 2 [adr G 532, .int (nI w), .int (nI k)] (V) (RNQ V tx ln k (pA tx ln w k a) (rvI tx ln w k a)) := by
  refine Ct.of cf_X12_readNumber (List.forall_mem_cons.mpr ⟨rfl, List.forall_mem_cons.mpr ⟨rfl, List.forall_mem_cons.mpr ⟨rfl, fun _ h => absurd h List.not_mem_nil⟩⟩⟩) (Nat.le_of_ble_eq_true rfl) (l0 := [some (adr G 532), some (.int (nI w)), some (.int (nI k)), none, none, none]) rfl (fun C hx hq => ?_)
  have hop := op_ok (tx := tx) (ln := ln) (a := a) (q := 0) (c := 45) rfl rfl (by decide) hK.2.1
  have hl := hK.1.2.1
  have hal := hK.2.1
  have h3 : tkK tx ln a < 4 := by
    unfold tkK
    split
    · have := kC_123 (tx a); omega
    · omega
  refine Ew.iconst hx dX12_readNumber_0 k_iconst_1 ?_
  refine Ew.istore_n hx dX12_readNumber_1 (by decide) rfl ?_
  refine Ew.iload_n hx dX12_readNumber_2 rfl ?_
  refine Ew.iload_n hx dX12_readNumber_3 rfl ?_
  refine Ew.callS (y' := mX12_isSigned) hx dX12_readNumber_4 ml_RX12_190 cf_X12_isSigned cs_X12_isSigned (ct_X12_isSigned G V hw hk) rfl (by decide) (by decide) rfl (Nat.le_of_ble_eq_true rfl) ?_
  rintro _ V9 ⟨rfl, h9⟩; subst V9
  refine Ew.ifeq_b hx (tgt := 37) dX12_readNumber_7 rfl (fun h7 => ?_) (fun h7 => ?_)
  · have hng : ¬ ngP tx w k a (tE tx ln a) := fun q => h7 q.1
    have ep : pA tx ln w k a = a := cif_f hng
    have hrv : rvI tx ln w k a = 1 * numI tx ln a (tE tx ln a) := by unfold rvI; rw [cif_f hng, ep, Int32.one_mul]
    rw [ep] at hq
    first
      | exact rn_2 hw hk (FMf.rf V) ⟨rfl, rfl, rfl⟩ hK rfl (sg := 1) hrv hx hq
      | exact rn_2 hw hk ((FMf.rf V).nx hNx) (NFl.nx ⟨rfl, rfl, rfl⟩ hNx) hK9 (hNx.1 538 (by decide)) (sg := -1) hrv hx hq
  · refine Ew.aload_n hx dX12_readNumber_10 rfl ?_
    refine Ew.getI hx dX12_readNumber_11 fg_RX12_167 rfl ?_
    refine Ew.iconst hx dX12_readNumber_14 k_iconst_3 ?_
    rw [hK.2.2.1]
    refine Ew.icmp_ne hx (tgt := 37) dX12_readNumber_15 rfl (fun h15 => ?_) (fun h15 => ?_)
    · have hng : ¬ ngP tx w k a (tE tx ln a) := fun q => h15 (by rw [(hop.mp q.2).1]; rfl)
      have ep : pA tx ln w k a = a := cif_f hng
      have hrv : rvI tx ln w k a = 1 * numI tx ln a (tE tx ln a) := by unfold rvI; rw [cif_f hng, ep, Int32.one_mul]
      rw [ep] at hq
      first
        | exact rn_2 hw hk (FMf.rf V) ⟨rfl, rfl, rfl⟩ hK rfl (sg := 1) hrv hx hq
        | exact rn_2 hw hk ((FMf.rf V).nx hNx) (NFl.nx ⟨rfl, rfl, rfl⟩ hNx) hK9 (hNx.1 538 (by decide)) (sg := -1) hrv hx hq
    · have k3 : tkK tx ln a = 3 := (nI_eq (a := tkK tx ln a) (b := 3) (by omega) (by omega)).mp h15
      refine Ew.aload_n hx dX12_readNumber_18 rfl ?_
      refine Ew.aload_n hx dX12_readNumber_19 rfl ?_
      refine Ew.getI hx dX12_readNumber_20 fg_RX12_161 rfl ?_
      rw [hK.2.2.2.1]
      refine Ew.callV2 (y' := mX12_at) hx dX12_readNumber_23 ml_RX12_164 cf_X12_at cv_X12_at (ct_X12_at G V hK.1 (i := a) (by omega)) rfl oc_19 rfl (by decide) (by decide) rfl (Nat.le_of_ble_eq_true rfl) ?_
      rintro _ V9 ⟨rfl, h9⟩; subst V9
      refine Ew.bipush hx dX12_readNumber_26 k_bipush_45 ?_
      refine Ew.icmp_ne hx (tgt := 37) dX12_readNumber_28 rfl (fun h28 => ?_) (fun h28 => ?_)
      · have hng : ¬ ngP tx w k a (tE tx ln a) := fun q => h28 (hop.mp q.2).2
        have ep : pA tx ln w k a = a := cif_f hng
        have hrv : rvI tx ln w k a = 1 * numI tx ln a (tE tx ln a) := by unfold rvI; rw [cif_f hng, ep, Int32.one_mul]
        rw [ep] at hq
        first
          | exact rn_2 hw hk (FMf.rf V) ⟨rfl, rfl, rfl⟩ hK rfl (sg := 1) hrv hx hq
          | exact rn_2 hw hk ((FMf.rf V).nx hNx) (NFl.nx ⟨rfl, rfl, rfl⟩ hNx) hK9 (hNx.1 538 (by decide)) (sg := -1) hrv hx hq
      · have hng : ngP tx w k a (tE tx ln a) := ⟨h7, hop.mpr ⟨k3, h28⟩⟩
        have ep : pA tx ln w k a = sK tx ln (tE tx ln a) := cif_t hng
        have hrv : rvI tx ln w k a = -1 * numI tx ln (sK tx ln (tE tx ln a)) (tE tx ln (sK tx ln (tE tx ln a))) := by unfold rvI; rw [cif_t hng, ep, Int32.neg_mul, Int32.one_mul]
        rw [ep] at hq
        refine Ew.iconst hx dX12_readNumber_31 k_iconst_m1 ?_
        refine Ew.istore_n hx dX12_readNumber_32 (by decide) rfl ?_
        refine Ew.aload_n hx dX12_readNumber_33 rfl ?_
        refine Ew.callV2 (y' := mX12_next) hx dX12_readNumber_34 ml_RX12_193 cf_X12_next cv_X12_next (ct_X12_next G V hK.1 (tE_le (tx := tx) hal).2.1 hK.2.2.2.2) rfl oc_19 rfl (by decide) (by decide) rfl (Nat.le_of_ble_eq_true rfl) ?_
        rintro _ V9 ⟨rfl, hNx, hK9⟩
        first
          | exact rn_2 hw hk (FMf.rf V) ⟨rfl, rfl, rfl⟩ hK rfl (sg := 1) hrv hx hq
          | exact rn_2 hw hk ((FMf.rf V).nx hNx) (NFl.nx ⟨rfl, rfl, rfl⟩ hNx) hK9 (hNx.1 538 (by decide)) (sg := -1) hrv hx hq
set_option maxHeartbeats 4000000 in
set_option maxRecDepth 100000 in
theorem ct_X12_codeOf (G : GT) (V : Mm) {s : Sv} {B : Int} (hM : MR V s) (hW : WF s B) (N : Nat → Int32) {w : Nat} (hw : w < 7) : Ct G mX12_codeOf 5 [adr G 532, .int (nI w), .int (N 0), .int (N 1), .int (N 2), .int (N 3)] (V) (fun v V9 => v = some (.int (cdW s N w)) ∧ ∀ k, k ≠ 536 → V9 k = V k) := by
  refine Ct.of cf_X12_codeOf (List.forall_mem_cons.mpr ⟨rfl, List.forall_mem_cons.mpr ⟨rfl, List.forall_mem_cons.mpr ⟨rfl, List.forall_mem_cons.mpr ⟨rfl, List.forall_mem_cons.mpr ⟨rfl, List.forall_mem_cons.mpr ⟨rfl, fun _ h => absurd h List.not_mem_nil⟩⟩⟩⟩⟩⟩) (Nat.le_of_ble_eq_true rfl) (l0 := [some (adr G 532), some (.int (nI w)), some (.int (N 0)), some (.int (N 1)), some (.int (N 2)), some (.int (N 3))]) rfl (fun C hx hq => ?_)
  refine Ew.iload_n hx dX12_codeOf_0 rfl ?_
  rcases sp7 hw with rfl | rfl | rfl | rfl | rfl | rfl | rfl
  · refine Ew.tswIn hx dX12_codeOf_1 (by decide) (i := 0) (tgt := 40) rfl rfl ?_
    refine Ew.aload_n hx dX12_codeOf_40 rfl ?_
    refine Ew.iload_n hx dX12_codeOf_41 rfl ?_
    refine Ew.iload_n hx dX12_codeOf_42 rfl ?_
    refine Ew.iload hx dX12_codeOf_43 rfl ?_
    refine Ew.callV2 (y' := mX12_rampCode) hx dX12_codeOf_45 ml_RX12_80 cf_X12_rampCode cv_X12_rampCode (ct_X12_rampCode G V hM _ _ _) rfl oc_19 rfl (by decide) (by decide) rfl (Nat.le_of_ble_eq_true rfl) ?_
    rintro _ V9 ⟨rfl, h9⟩; subst V9
    refine Ew.iret hx hq dX12_codeOf_48 rfl ?_
    first | exact ⟨rfl, fun _ _ => rfl⟩ | exact ⟨rfl, h9⟩
  · refine Ew.tswIn hx dX12_codeOf_1 (by decide) (i := 1) (tgt := 49) rfl rfl ?_
    refine Ew.aload_n hx dX12_codeOf_49 rfl ?_
    refine Ew.iload_n hx dX12_codeOf_50 rfl ?_
    refine Ew.iload_n hx dX12_codeOf_51 rfl ?_
    refine Ew.callV2 (y' := mX12_rateCode) hx dX12_codeOf_52 ml_RX12_73 cf_X12_rateCode cv_X12_rateCode (ct_X12_rateCode G V _ _) rfl oc_19 rfl (by decide) (by decide) rfl (Nat.le_of_ble_eq_true rfl) ?_
    rintro _ V9 ⟨rfl, h9⟩; subst V9
    refine Ew.iret hx hq dX12_codeOf_55 rfl ?_
    first | exact ⟨rfl, fun _ _ => rfl⟩ | exact ⟨rfl, h9⟩
  · refine Ew.tswIn hx dX12_codeOf_1 (by decide) (i := 2) (tgt := 56) rfl rfl ?_
    refine Ew.aload_n hx dX12_codeOf_56 rfl ?_
    refine Ew.iload_n hx dX12_codeOf_57 rfl ?_
    refine Ew.iload_n hx dX12_codeOf_58 rfl ?_
    refine Ew.iload hx dX12_codeOf_59 rfl ?_
    refine Ew.iload hx dX12_codeOf_61 rfl ?_
    refine Ew.callV2 (y' := mX12_buyCode) hx dX12_codeOf_63 ml_RX12_105 cf_X12_buyCode cv_X12_buyCode (ct_X12_buyCode G V hM hW _ _ _ _) rfl oc_19 rfl (by decide) (by decide) rfl (Nat.le_of_ble_eq_true rfl) ?_
    rintro _ V9 ⟨rfl, h9⟩
    refine Ew.iret hx hq dX12_codeOf_66 rfl ?_
    first | exact ⟨rfl, fun _ _ => rfl⟩ | exact ⟨rfl, h9⟩
  · refine Ew.tswIn hx dX12_codeOf_1 (by decide) (i := 3) (tgt := 67) rfl rfl ?_
    refine Ew.aload_n hx dX12_codeOf_67 rfl ?_
    refine Ew.iload_n hx dX12_codeOf_68 rfl ?_
    refine Ew.iload_n hx dX12_codeOf_69 rfl ?_
    refine Ew.callV2 (y' := mX12_moveCode) hx dX12_codeOf_70 ml_RX12_125 cf_X12_moveCode cv_X12_moveCode (ct_X12_moveCode G V hM hW _ _) rfl oc_19 rfl (by decide) (by decide) rfl (Nat.le_of_ble_eq_true rfl) ?_
    rintro _ V9 ⟨rfl, h9⟩
    refine Ew.iret hx hq dX12_codeOf_73 rfl ?_
    first | exact ⟨rfl, fun _ _ => rfl⟩ | exact ⟨rfl, h9⟩
  · refine Ew.tswIn hx dX12_codeOf_1 (by decide) (i := 4) (tgt := 74) rfl rfl ?_
    refine Ew.aload_n hx dX12_codeOf_74 rfl ?_
    refine Ew.iload_n hx dX12_codeOf_75 rfl ?_
    refine Ew.callV2 (y' := mX12_cancelCode) hx dX12_codeOf_76 ml_RX12_131 cf_X12_cancelCode cv_X12_cancelCode (ct_X12_cancelCode G V hM hW _) rfl oc_19 rfl (by decide) (by decide) rfl (Nat.le_of_ble_eq_true rfl) ?_
    rintro _ V9 ⟨rfl, h9⟩; subst V9
    refine Ew.iret hx hq dX12_codeOf_79 rfl ?_
    first | exact ⟨rfl, fun _ _ => rfl⟩ | exact ⟨rfl, h9⟩
  · refine Ew.tswIn hx dX12_codeOf_1 (by decide) (i := 5) (tgt := 80) rfl rfl ?_
    refine Ew.aload_n hx dX12_codeOf_80 rfl ?_
    refine Ew.iload_n hx dX12_codeOf_81 rfl ?_
    refine Ew.callV2 (y' := mX12_refundCode) hx dX12_codeOf_82 ml_RX12_137 cf_X12_refundCode cv_X12_refundCode (ct_X12_refundCode G V hM hW _) rfl oc_19 rfl (by decide) (by decide) rfl (Nat.le_of_ble_eq_true rfl) ?_
    rintro _ V9 ⟨rfl, h9⟩; subst V9
    refine Ew.iret hx hq dX12_codeOf_85 rfl ?_
    first | exact ⟨rfl, fun _ _ => rfl⟩ | exact ⟨rfl, h9⟩
  · refine Ew.tswOut hx dX12_codeOf_1 (by decide) (tgt := 86) rfl ?_
    refine Ew.aload_n hx dX12_codeOf_86 rfl ?_
    refine Ew.iload_n hx dX12_codeOf_87 rfl ?_
    refine Ew.callV2 (y' := mX12_passCode) hx dX12_codeOf_88 ml_RX12_143 cf_X12_passCode cv_X12_passCode (ct_X12_passCode G V hM _) rfl oc_19 rfl (by decide) (by decide) rfl (Nat.le_of_ble_eq_true rfl) ?_
    rintro _ V9 ⟨rfl, h9⟩; subst V9
    refine Ew.iret hx hq dX12_codeOf_91 rfl ?_
    first | exact ⟨rfl, fun _ _ => rfl⟩ | exact ⟨rfl, h9⟩
set_option maxHeartbeats 4000000 in
set_option maxRecDepth 100000 in
theorem ct_X12_carry (G : GT) (V : Mm) {s : Sv} {B : Int} (hM : MR V s) (hW : WF s B) (N : Nat → Int32) {w : Nat} (hw : w < 7) (hc : cdW s N w = 0) : Ct G mX12_carry 4 [adr G 532, .int (nI w), .int (N 0), .int (N 1), .int (N 2), .int (N 3)] (V) (fun v V9 => v = some (.int (anW s N w)) ∧ MR V9 (nxW s N w) ∧ ∀ q, q ≠ 533 → q ≠ 536 → V9 q = V q) := by
  refine Ct.of cf_X12_carry (List.forall_mem_cons.mpr ⟨rfl, List.forall_mem_cons.mpr ⟨rfl, List.forall_mem_cons.mpr ⟨rfl, List.forall_mem_cons.mpr ⟨rfl, List.forall_mem_cons.mpr ⟨rfl, List.forall_mem_cons.mpr ⟨rfl, fun _ h => absurd h List.not_mem_nil⟩⟩⟩⟩⟩⟩) (Nat.le_of_ble_eq_true rfl) (l0 := [some (adr G 532), some (.int (nI w)), some (.int (N 0)), some (.int (N 1)), some (.int (N 2)), some (.int (N 3))]) rfl (fun C hx hq => ?_)
  refine Ew.iload_n hx dX12_carry_0 rfl ?_
  rcases sp7 hw with rfl | rfl | rfl | rfl | rfl | rfl | rfl
  · refine Ew.tswIn hx dX12_carry_1 (by decide) (i := 0) (tgt := 40) rfl rfl ?_
    refine Ew.aload_n hx dX12_carry_40 rfl ?_
    refine Ew.iload_n hx dX12_carry_41 rfl ?_
    refine Ew.iload_n hx dX12_carry_42 rfl ?_
    refine Ew.iload hx dX12_carry_43 rfl ?_
    have ok : cdRamp s (N 0) (N 1) (N 2) = 0 := hc
    have hr : nrN s < 4 := by
      have q2 := (cif_0 ok).2
      have q3 : ¬ s 2 = 4 := fun q => by rw [cif_t q] at q2; exact absurd q2 (by decide)
      have q4 := hW.nr
      have q5 : nrN s ≠ 4 := fun q => q3 (by rw [q4.1, q]; rfl)
      omega
    refine Ew.callV2 (y' := mX12_rampNow) hx dX12_carry_45 ml_RX12_83 cf_X12_rampNow cv_X12_rampNow (ct_X12_rampNow G V hM hW hr _ _ _) rfl oc_19 rfl (by decide) (by decide) rfl (Nat.le_of_ble_eq_true rfl) ?_
    rintro _ V9 ⟨rfl, hM9, hF9⟩
    refine Ew.iret hx hq dX12_carry_48 rfl ?_
    exact ⟨rfl, hM9, fun q h1 _ => hF9 q h1⟩
  · refine Ew.tswIn hx dX12_carry_1 (by decide) (i := 1) (tgt := 49) rfl rfl ?_
    refine Ew.aload_n hx dX12_carry_49 rfl ?_
    refine Ew.iload_n hx dX12_carry_50 rfl ?_
    refine Ew.iload_n hx dX12_carry_51 rfl ?_
    have ok : cdRate (N 0) (N 1) = 0 := hc
    have hw0 := (cif_0 ok).1.1
    rw [ie, ie, tl_0, tl_25] at hw0
    have ew : N 0 = nI (nt (N 0)) := ofNI hw0.1
    have hn : nt (N 0) < 26 := by unfold nt; omega
    rw [show Value.int (N 0) = Value.int (nI (nt (N 0))) from congrArg Value.int ew]
    refine Ew.callV2 (y' := mX12_rateNow) hx dX12_carry_52 ml_RX12_76 cf_X12_rateNow cv_X12_rateNow (ct_X12_rateNow G V hn _) rfl oc_19 rfl (by decide) (by decide) rfl (Nat.le_of_ble_eq_true rfl) ?_
    rintro _ V9 ⟨rfl, h9⟩; subst V9
    rw [hM _ (by omega)]
    refine Ew.iret hx hq dX12_carry_55 rfl ?_
    exact ⟨rfl, hM.put _ _, fun q h1 _ => mup_ne _ _ _ h1⟩
  · refine Ew.tswIn hx dX12_carry_1 (by decide) (i := 2) (tgt := 56) rfl rfl ?_
    refine Ew.aload_n hx dX12_carry_56 rfl ?_
    refine Ew.iload_n hx dX12_carry_57 rfl ?_
    refine Ew.iload_n hx dX12_carry_58 rfl ?_
    refine Ew.iload hx dX12_carry_59 rfl ?_
    refine Ew.iload hx dX12_carry_61 rfl ?_
    have ok : cdBuy s (N 0) (N 1) (N 2) (N 3) = 0 := hc
    obtain ⟨r, hxr, hr⟩ := hW.rix (cif_0 ok).1.1
    have hp := buy_lt hW ok
    change Cq G (fun v V9 => v = some (.int (s 3)) ∧ MR V9 (nxBuy s (N 0) (N 1) (N 2) (N 3)) ∧ ∀ q, q ≠ 533 → q ≠ 536 → V9 q = V q) C at hq
    rw [hxr] at hq
    rw [hxr]
    refine Ew.callV2 (y' := mX12_buyNow) hx dX12_carry_63 ml_RX12_109 cf_X12_buyNow cv_X12_buyNow (ct_X12_buyNow G V hM hW hr hp _ _ _) rfl oc_19 rfl (by decide) (by decide) rfl (Nat.le_of_ble_eq_true rfl) ?_
    rintro _ V9 ⟨rfl, hM9, hF9⟩
    refine Ew.iret hx hq dX12_carry_66 rfl ?_
    exact ⟨rfl, hM9, fun q h1 _ => hF9 q h1⟩
  · refine Ew.tswIn hx dX12_carry_1 (by decide) (i := 3) (tgt := 67) rfl rfl ?_
    refine Ew.aload_n hx dX12_carry_67 rfl ?_
    refine Ew.iload_n hx dX12_carry_68 rfl ?_
    refine Ew.iload_n hx dX12_carry_69 rfl ?_
    have ok : cdMove s (N 0) (N 1) = 0 := hc
    obtain ⟨r, hxr, hr⟩ := hW.rix (cif_0 ok).1.2
    obtain ⟨k, hpk, hk⟩ := hW.pix (cif_0 ok).1.1
    change Cq G (fun v V9 => v = some (.int (mvD s (N 0) (N 1))) ∧ MR V9 (nxMove s (N 0) (N 1)) ∧ ∀ q, q ≠ 533 → q ≠ 536 → V9 q = V q) C at hq
    rw [hpk, hxr] at hq
    rw [hpk, hxr]
    refine Ew.callV2 (y' := mX12_moveNow) hx dX12_carry_70 ml_RX12_128 cf_X12_moveNow cv_X12_moveNow (ct_X12_moveNow G V hM hW hk hr) rfl oc_19 rfl (by decide) (by decide) rfl (Nat.le_of_ble_eq_true rfl) ?_
    rintro _ V9 ⟨rfl, hM9, hF9⟩
    refine Ew.iret hx hq dX12_carry_73 rfl ?_
    exact ⟨rfl, hM9, fun q h1 _ => hF9 q h1⟩
  · refine Ew.tswIn hx dX12_carry_1 (by decide) (i := 4) (tgt := 74) rfl rfl ?_
    refine Ew.aload_n hx dX12_carry_74 rfl ?_
    refine Ew.iload_n hx dX12_carry_75 rfl ?_
    have ok : cdCancel s (N 0) = 0 := hc
    obtain ⟨k, hpk, hk⟩ := hW.pix (cif_0 ok).1
    have hpn : nt (N 0) = k := by rw [hpk, nt_nI (by have := hW.np.2; omega)]
    have hd0 : ¬ dtc s k = 0 := fun q => by
      have q2 := (cif_0 ok).2
      rw [hpn, cif_t q] at q2
      exact absurd q2 (by decide)
    change Cq G (fun v V9 => v = some (.int (anCancel s (N 0))) ∧ MR V9 (nxCancel s (N 0)) ∧ ∀ q, q ≠ 533 → q ≠ 536 → V9 q = V q) C at hq
    rw [hpk] at hq
    rw [hpk]
    refine Ew.callV2 (y' := mX12_cancelNow) hx dX12_carry_76 ml_RX12_134 cf_X12_cancelNow cv_X12_cancelNow (ct_X12_cancelNow G V hM hW hk hd0) rfl oc_19 rfl (by decide) (by decide) rfl (Nat.le_of_ble_eq_true rfl) ?_
    rintro _ V9 ⟨rfl, hM9, hF9⟩
    refine Ew.iret hx hq dX12_carry_79 rfl ?_
    exact ⟨rfl, hM9, hF9⟩
  · refine Ew.tswIn hx dX12_carry_1 (by decide) (i := 5) (tgt := 80) rfl rfl ?_
    refine Ew.aload_n hx dX12_carry_80 rfl ?_
    refine Ew.iload_n hx dX12_carry_81 rfl ?_
    have ok : cdRefund s (N 0) = 0 := hc
    obtain ⟨k, hpk, hk⟩ := hW.pix (cif_0 ok).1
    have hpn : nt (N 0) = k := by rw [hpk, nt_nI (by have := hW.np.2; omega)]
    change Cq G (fun v V9 => v = some (.int (pf s (nt (N 0)) 7)) ∧ MR V9 (nxRefund s (N 0)) ∧ ∀ q, q ≠ 533 → q ≠ 536 → V9 q = V q) C at hq
    unfold nxRefund at hq
    rw [hpn] at hq
    rw [hpk]
    refine Ew.callV2 (y' := mX12_refundNow) hx dX12_carry_82 ml_RX12_140 cf_X12_refundNow cv_X12_refundNow (ct_X12_refundNow G V hM hW hk) rfl oc_19 rfl (by decide) (by decide) rfl (Nat.le_of_ble_eq_true rfl) ?_
    rintro _ V9 ⟨rfl, hM9, hF9⟩
    refine Ew.iret hx hq dX12_carry_85 rfl ?_
    exact ⟨rfl, hM9, fun q h1 _ => hF9 q h1⟩
  · refine Ew.tswOut hx dX12_carry_1 (by decide) (tgt := 86) rfl ?_
    refine Ew.aload_n hx dX12_carry_86 rfl ?_
    refine Ew.iload_n hx dX12_carry_87 rfl ?_
    refine Ew.callV2 (y' := mX12_passNow) hx dX12_carry_88 ml_RX12_146 cf_X12_passNow cv_X12_passNow (ct_X12_passNow G V hM hW _) rfl oc_19 rfl (by decide) (by decide) rfl (Nat.le_of_ble_eq_true rfl) ?_
    rintro _ V9 ⟨rfl, hM9, hF9⟩
    refine Ew.iret hx hq dX12_carry_91 rfl ?_
    exact ⟨rfl, hM9, fun q h1 _ => hF9 q h1⟩
