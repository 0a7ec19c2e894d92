theorem rdN_mono (tx : Tx) {ln w : Nat} : ∀ (n i a b : Nat) (N : Nat → Int32), a ≤ b → b ≤ ln → a ≤ (rdN tx ln w n i a b N).2.1
  | 0, i, a, b, N, ha, hb => by
    unfold rdN
    have q := sK_le (tx := tx) hb
    by_cases h : isTk tx a b 1
    · rw [cif_t h]; show a ≤ sK tx ln b; omega
    · rw [cif_f h]; exact Nat.le_refl a
  | n + 1, i, a, b, N, ha, hb => by
    unfold rdN
    have q0 := sK_le (tx := tx) hb
    have q := tE_le (tx := tx) q0.2
    have q1 := sK_le (tx := tx) q.2.1
    have q2 := tE_le (tx := tx) q1.2
    by_cases h : ngP tx w i a b
    · rw [cif_t h]
      by_cases h2 : numI tx ln (sK tx ln b) (tE tx ln (sK tx ln b)) = -1
      · rw [cif_t h2]; show a ≤ sK tx ln b; omega
      · rw [cif_f h2]; exact Nat.le_trans (by omega) (rdN_mono tx n (i + 1) _ _ _ q2.1 q2.2.1)
    · rw [cif_f h]
      by_cases h2 : numI tx ln a b = -1
      · rw [cif_t h2]; exact Nat.le_refl a
      · rw [cif_f h2]; exact Nat.le_trans (by omega) (rdN_mono tx n (i + 1) _ _ _ q.1 q.2.1)
theorem rdC_lt {tx : Tx} {ln a : Nat} {N : Nat → Int32} (ha : a < ln) (h : (rdC tx ln a (tE tx ln a) N).1 < 7) : a < (rdC tx ln a (tE tx ln a) N).2.1 := by
  have q0 := tE_le (tx := tx) (Nat.le_of_lt ha)
  have q1 := sK_le (tx := tx) q0.2.1
  have q2 := tE_le (tx := tx) q1.2
  unfold rdC at h ⊢
  by_cases hc : cmI tx a (tE tx ln a) < 7
  · rw [cif_t hc]
    exact Nat.lt_of_lt_of_le (by have := q0.2.2 ha; omega) (rdN_mono tx _ _ _ _ _ q2.1 q2.2.1)
  · rw [cif_f hc] at h
    exact absurd (show 7 < 7 from h) (by decide)
/-- what run leaves -/
def RunM (V : Mm) (s : Sv) (z : Nat) (h : Nat → Sv) (r : RR) : PT := fun v V9 => v = some (.int (rnA r)) ∧ (∀ j, j < 532 ∨ j = 537 → V9 j = V j) ∧
  ((r.1 = 0 ∧ MR V9 r.2.2.2.2 ∧ MS V9 (szH z) (psh s h) ∧ V9 532 7 = 0 ∧ V9 532 10 = V 532 10 ∧ V9 539 = V 539) ∨
   (r.1 ≠ 0 ∧ MR V9 s ∧ MS V9 z h ∧ V9 532 7 = V 532 7 ∧ V9 532 10 = 1 ∧ V9 539 0 = r.1 ∧ V9 539 1 = r.2.1 ∧ V9 539 2 = cif (r.1 = 1) 1 2 ∧ V9 539 3 = r.2.2.1 ∧ V9 539 4 = nI r.2.2.2.1))
def XF (V X : Mm) : Prop := (∀ j, j < 532 ∨ j = 535 ∨ j = 537 → X j = V j) ∧ ∀ i, i < 10 → i ≠ 0 → X 532 i = V 532 i
set_option maxHeartbeats 4000000 in
set_option maxRecDepth 100000 in
theorem lp_run_d {G : GT} {C : CT} {V : Mm} {W2 : Mm} {s u : Sv} {z : Nat} {h : Nat → Sv} {r : RR} {c : Nat} (hr : r = (0, 0, 0, c, u)) (h5 : ∀ j, j < 532 ∨ j = 537 → W2 j = V j) (hS2 : MS W2 (szH z) (psh s h)) (e10 : W2 532 10 = V 532 10) (e39 : W2 539 = V 539) (e15 : W2 532 15 = nI c) (h34 : ∀ m, m < 581 → W2 534 m = u m) (hx : Cx G mX12_run 7 C) (hq : Cq G (RunM V s z h r) C) : ∀ (n i : Nat), i + n = 581 → ∀ W : Mm, (∀ m, m < i → W 533 m = u m) → (∀ k, k ≠ 533 → W k = W2 k) → Ew G C (W) 137 [some (adr G 532), some (.int (nI i)), none] [] := by
  intro n
  induction n with
  | zero =>
    intro i hi W hR hF
    refine Ew.iload_n hx dX12_run_137 rfl ?_
    refine Ew.sipush hx dX12_run_138 k_sipush_581 ?_
    refine Ew.icmp_ge_t hx (tgt := 162) dX12_run_141 rfl (nI_le (a := 581) (b := i) (by omega) (by omega)) ?_
    refine Ew.aload_n hx dX12_run_162 rfl ?_
    refine Ew.iconst hx dX12_run_163 k_iconst_0 ?_
    refine Ew.putI hx dX12_run_164 pg_RX12_155 rfl ?_
    refine Ew.aload_n hx dX12_run_167 rfl ?_
    refine Ew.getI hx dX12_run_168 fg_RX12_177 rfl ?_
    rw [mup_oth _ _ _ _ (Or.inr (by decide)), hF 532 (by decide), e15]
    refine Ew.iret hx hq dX12_run_171 rfl ?_
    subst hr
    refine ⟨congrArg (fun z => some (Value.int z)) (show nI c = rnA (0, 0, 0, c, u) from (cif_t rfl).symm), fun j hj => ?_, Or.inl ⟨rfl, fun m hm => ?_, ?_, mup_self _ _ _ _, ?_, ?_⟩⟩
    · rw [mup_ne _ _ _ (by omega), hF j (by omega)]; exact h5 j hj
    · rw [mup_ne _ _ _ (by decide)]; exact hR m (by omega)
    · exact hS2.fr (by rw [mup_oth _ _ _ _ (Or.inr (by decide)), hF 532 (by decide)]) (by rw [mup_ne _ _ _ (by decide), hF 535 (by decide)])
    · rw [mup_oth _ _ _ _ (Or.inr (by decide)), hF 532 (by decide)]; exact e10
    · rw [mup_ne _ _ _ (by decide), hF 539 (by decide)]; exact e39
  | succ n ih =>
    intro i hi W hR hF
    refine Ew.iload_n hx dX12_run_137 rfl ?_
    refine Ew.sipush hx dX12_run_138 k_sipush_581 ?_
    refine Ew.icmp_ge_f hx (tgt := 162) dX12_run_141 rfl (nI_ge (a := i) (b := 581) (by omega) (by omega)) ?_
    refine Ew.aload_n hx dX12_run_144 rfl ?_
    refine Ew.getR (533) hx dX12_run_145 fg_RX12_7 rfl rfl ?_
    refine Ew.iload_n hx dX12_run_148 rfl ?_
    refine Ew.aload_n hx dX12_run_149 rfl ?_
    refine Ew.getR (534) hx dX12_run_150 fg_RX12_13 rfl rfl ?_
    refine Ew.iload_n hx dX12_run_153 rfl ?_
    refine Ew.iald (i := i) hx dX12_run_154 ag_20 rfl (rfl) (by omega) ?_
    rw [hF 534 (by decide), h34 i (by omega)]
    refine Ew.iast (i := i) hx dX12_run_155 ag_20 rfl (rfl) (by omega) ?_
    refine Ew.iinc hx dX12_run_156 rfl (k_iinc_1 _) (by decide) rfl ?_
    refine Ew.goto hx (tgt := 137) dX12_run_159 rfl ?_
    rw [nI_1]
    refine ih (i + 1) (by omega) _ (fun m hm => ?_) (fun k hk => by rw [mup_ne _ _ _ hk]; exact hF k hk)
    rw [mup_same]
    by_cases q : m = i
    · subst q
      rw [upd_s]
    · rw [upd_n _ _ q]
      exact hR m (by omega)
set_option maxHeartbeats 4000000 in
set_option maxRecDepth 100000 in
theorem run_s {G : GT} {C : CT} {V W : Mm} {s u : Sv} {z : Nat} {h : Nat → Sv} {r : RR} {c : Nat} (hr : r = (0, 0, 0, c, u)) (hX : XF V W) (hS : MS V z h) (hM : MR W s) (h34 : ∀ m, m < 581 → W 534 m = u m) (e14 : W 532 14 = 1) (e10 : W 532 10 = V 532 10) (e39 : W 539 = V 539) (e15 : W 532 15 = nI c) (hx : Cx G mX12_run 7 C) (hq : Cq G (RunM V s z h r) C) : Ew G C W 113 [some (adr G 532), none, none] [] := by
  have hSW : MS W z h := hS.fr (hX.2 4 (by decide) (by decide)) (hX.1 535 (by decide))
  refine Ew.aload_n hx dX12_run_113 rfl ?_
  refine Ew.getI hx dX12_run_114 fg_RX12_170 rfl ?_
  refine Ew.if_ne_t hx (tgt := 131) dX12_run_117 rfl (by rw [e14]; decide) ?_
  refine Ew.aload_n hx dX12_run_131 rfl ?_
  refine Ew.callV2 (y' := mX12_act) hx dX12_run_132 ml_RX12_70 cf_X12_act cv_X12_act (ct_X12_act G W hM hSW) rfl oc_19 rfl (by decide) (by decide) rfl (Nat.le_of_ble_eq_true rfl) ?_
  rintro v W2 hA; obtain rfl := hA.1
  refine Ew.iconst hx dX12_run_135 k_iconst_0 ?_
  refine Ew.istore_n hx dX12_run_136 (by decide) rfl ?_
  refine lp_run_d hr (fun j hj => ?_) hA.2.2.2 ?_ ?_ ?_ (fun m hm => ?_) hx hq 581 0 rfl W2 (fun m hm => absurd hm (Nat.not_lt_zero m)) (fun _ _ => rfl)
  · rw [hA.2.1 j (by omega) (by omega)]; exact hX.1 j (by omega)
  · rw [hA.2.2.1 10 (by decide)]; exact e10
  · rw [hA.2.1 539 (by decide) (by decide)]; exact e39
  · rw [hA.2.2.1 15 (by decide)]; exact e15
  · rw [hA.2.1 534 (by decide) (by decide)]; exact h34 m hm
set_option maxHeartbeats 4000000 in
set_option maxRecDepth 100000 in
theorem run_f {G : GT} {C : CT} {V W : Mm} {s u : Sv} {z : Nat} {h : Nat → Sv} {r : RR} (hk : r.1 ≠ 0) (hX : XF V W) (hS : MS V z h) (hM : MR W s) (hL : FL W r.1 r.2.1 r.2.2.1 (nI r.2.2.2.1)) (hx : Cx G mX12_run 7 C) (hq : Cq G (RunM V s z h r) C) : Ew G C W 113 [some (adr G 532), none, none] [] := by
  obtain ⟨f1, f2, f3, f4, f5, f6, f7⟩ := hL
  refine Ew.aload_n hx dX12_run_113 rfl ?_
  refine Ew.getI hx dX12_run_114 fg_RX12_170 rfl ?_
  refine Ew.if_ne_f hx (tgt := 131) dX12_run_117 rfl (f1) ?_
  refine Ew.sipush hx dX12_run_120 k_sipush_m1000 ?_
  refine Ew.aload_n hx dX12_run_123 rfl ?_
  refine Ew.getR (539) hx dX12_run_124 fg_RX12_28 rfl rfl ?_
  refine Ew.iconst hx dX12_run_127 k_iconst_1 ?_
  refine Ew.iald (i := 1) hx dX12_run_128 ag_24 rfl (rfl) (by decide) ?_
  rw [f4]
  refine Ew.isub hx dX12_run_129 ?_
  refine Ew.iret hx hq dX12_run_130 rfl ?_
  exact ⟨congrArg (fun z => some (Value.int z)) (show -1000 - r.2.1 = rnA r from (cif_f hk).symm), fun j hj => hX.1 j (by omega), Or.inr ⟨hk, hM, hS.fr (hX.2 4 (by decide) (by decide)) (hX.1 535 (by decide)), hX.2 7 (by decide) (by decide), f2, f3, f4, f5, f6, f7⟩⟩
set_option maxHeartbeats 4000000 in
set_option maxRecDepth 100000 in
theorem lp_run_c {G : GT} {C : CT} {V : Mm} {X : Mm} {s u : Sv} {Q : PT} (hend : ∀ W : Mm, MR W s → (∀ m, m < 581 → W 534 m = u m) → (∀ k, k ≠ 533 → k ≠ 534 → W k = X k) → Ew G C W 113 [some (adr G 532), none, none] []) (hx : Cx G mX12_run 7 C) (hq : Cq G (Q) C) : ∀ (n i : Nat), i + n = 581 → ∀ W : Mm, (∀ m, m < 581 → W 533 m = if m < i then s m else u m) → (∀ m, m < 581 → W 534 m = if m < i then u m else s m) → (∀ k, k ≠ 533 → k ≠ 534 → W k = X k) → Ew G C (W) 74 [some (adr G 532), some (.int (nI i)), none] [] := by
  intro n
  induction n with
  | zero =>
    intro i hi W h3 h4 hF
    refine Ew.iload_n hx dX12_run_74 rfl ?_
    refine Ew.sipush hx dX12_run_75 k_sipush_581 ?_
    refine Ew.icmp_ge_t hx (tgt := 113) dX12_run_78 rfl (nI_le (a := 581) (b := i) (by omega) (by omega)) ?_
    exact Ew.drop 1 (hend W (fun m hm => (h3 m hm).trans (if_pos (by omega))) (fun m hm => (h4 m hm).trans (if_pos (by omega))) hF)
  | succ n ih =>
    intro i hi W h3 h4 hF
    refine Ew.iload_n hx dX12_run_74 rfl ?_
    refine Ew.sipush hx dX12_run_75 k_sipush_581 ?_
    refine Ew.icmp_ge_f hx (tgt := 113) dX12_run_78 rfl (nI_ge (a := i) (b := 581) (by omega) (by omega)) ?_
    refine Ew.aload_n hx dX12_run_81 rfl ?_
    refine Ew.getR (533) hx dX12_run_82 fg_RX12_7 rfl rfl ?_
    refine Ew.iload_n hx dX12_run_85 rfl ?_
    refine Ew.iald (i := i) hx dX12_run_86 ag_20 rfl (rfl) (by omega) ?_
    rw [(h3 i (by omega)).trans (if_neg (by omega))]
    refine Ew.istore_n hx dX12_run_87 (by decide) rfl ?_
    refine Ew.aload_n hx dX12_run_88 rfl ?_
    refine Ew.getR (533) hx dX12_run_89 fg_RX12_7 rfl rfl ?_
    refine Ew.iload_n hx dX12_run_92 rfl ?_
    refine Ew.aload_n hx dX12_run_93 rfl ?_
    refine Ew.getR (534) hx dX12_run_94 fg_RX12_13 rfl rfl ?_
    refine Ew.iload_n hx dX12_run_97 rfl ?_
    refine Ew.iald (i := i) hx dX12_run_98 ag_20 rfl (rfl) (by omega) ?_
    rw [(h4 i (by omega)).trans (if_neg (by omega))]
    refine Ew.iast (i := i) hx dX12_run_99 ag_20 rfl (rfl) (by omega) ?_
    refine Ew.aload_n hx dX12_run_100 rfl ?_
    refine Ew.getR (534) hx dX12_run_101 fg_RX12_13 rfl rfl ?_
    refine Ew.iload_n hx dX12_run_104 rfl ?_
    refine Ew.iload_n hx dX12_run_105 rfl ?_
    refine Ew.iast (i := i) hx dX12_run_106 ag_20 rfl (rfl) (by omega) ?_
    refine Ew.iinc hx dX12_run_107 rfl (k_iinc_1 _) (by decide) rfl ?_
    refine Ew.goto hx (tgt := 74) dX12_run_110 rfl ?_
    rw [nI_1]
    refine Ew.drop 2 (ih (i + 1) (by omega) _ (fun m hm => ?_) (fun m hm => ?_) (fun k hk hk2 => by rw [mup_ne _ _ _ hk2, mup_ne _ _ _ hk]; exact hF k hk hk2))
    · rw [mup_ne _ _ _ (by decide), mup_same]
      by_cases q : m = i
      · subst q
        rw [upd_s, if_pos (by omega)]
      · rw [upd_n _ _ q, h3 m hm]
        by_cases q2 : m < i
        · rw [if_pos q2, if_pos (by omega)]
        · rw [if_neg q2, if_neg (by omega)]
    · rw [mup_same]
      by_cases q : m = i
      · subst q
        rw [upd_s, if_pos (by omega)]
      · rw [upd_n _ _ q, mup_ne _ _ _ (by decide), h4 m hm]
        by_cases q2 : m < i
        · rw [if_pos q2, if_pos (by omega)]
        · rw [if_neg q2, if_neg (by omega)]
set_option maxHeartbeats 4000000 in
set_option maxRecDepth 100000 in
theorem run_cs {G : GT} {C : CT} {V X : Mm} {s u : Sv} {z : Nat} {h : Nat → Sv} {r : RR} {c : Nat} (hr : r = (0, 0, 0, c, u)) (hX : XF V X) (hS : MS V z h) (hM : MR X u) (h34 : ∀ m, m < 581 → X 534 m = s m) (e14 : X 532 14 = 1) (e10 : X 532 10 = V 532 10) (e39 : X 539 = V 539) (e15 : X 532 15 = nI c) (hx : Cx G mX12_run 7 C) (hq : Cq G (RunM V s z h r) C) : Ew G C X 72 [some (adr G 532), none, none] [] := by
  refine Ew.iconst hx dX12_run_72 k_iconst_0 ?_
  refine Ew.istore_n hx dX12_run_73 (by decide) rfl ?_
  exact lp_run_c (V := V) (X := X) (s := s) (u := u) (fun W hMs hu hF => run_s hr ⟨fun j hj => by rw [hF j (by omega) (by omega)]; exact hX.1 j hj, fun i a b => by rw [hF 532 (by decide) (by decide)]; exact hX.2 i a b⟩ hS hMs hu (by rw [hF 532 (by decide) (by decide)]; exact e14) (by rw [hF 532 (by decide) (by decide)]; exact e10) (by rw [hF 539 (by decide) (by decide)]; exact e39) (by rw [hF 532 (by decide) (by decide)]; exact e15) hx hq) hx hq 581 0 rfl X (fun m hm => (hM m hm).trans (if_neg (Nat.not_lt_zero m)).symm) (fun m hm => (h34 m hm).trans (if_neg (Nat.not_lt_zero m)).symm) (fun _ _ _ => rfl)
set_option maxHeartbeats 4000000 in
set_option maxRecDepth 100000 in
theorem run_cf {G : GT} {C : CT} {V X : Mm} {s u : Sv} {z : Nat} {h : Nat → Sv} {r : RR} (hk : r.1 ≠ 0) (hX : XF V X) (hS : MS V z h) (hM : MR X u) (h34 : ∀ m, m < 581 → X 534 m = s m) (hL : FL X r.1 r.2.1 r.2.2.1 (nI r.2.2.2.1)) (hx : Cx G mX12_run 7 C) (hq : Cq G (RunM V s z h r) C) : Ew G C X 72 [some (adr G 532), none, none] [] := by
  refine Ew.iconst hx dX12_run_72 k_iconst_0 ?_
  refine Ew.istore_n hx dX12_run_73 (by decide) rfl ?_
  exact lp_run_c (V := V) (X := X) (s := s) (u := u) (fun W hMs hu hF => run_f (u := u) hk ⟨fun j hj => by rw [hF j (by omega) (by omega)]; exact hX.1 j hj, fun i a b => by rw [hF 532 (by decide) (by decide)]; exact hX.2 i a b⟩ hS hMs (by unfold FL at hL ⊢; rw [hF 532 (by decide) (by decide), hF 539 (by decide) (by decide)]; exact hL) hx hq) hx hq 581 0 rfl X (fun m hm => (hM m hm).trans (if_neg (Nat.not_lt_zero m)).symm) (fun m hm => (h34 m hm).trans (if_neg (Nat.not_lt_zero m)).symm) (fun _ _ _ => rfl)
set_option maxHeartbeats 4000000 in
set_option maxRecDepth 100000 in
theorem run_x {G : GT} {C : CT} {V X : Mm} {s u : Sv} {z : Nat} {h : Nat → Sv} {r : RR} (hk : r.1 ≠ 0) (hX : XF V X) (hS : MS V z h) (hM : MR X u) (h34 : ∀ m, m < 581 → X 534 m = s m) (hL : FL X r.1 r.2.1 r.2.2.1 (nI r.2.2.2.1)) (hx : Cx G mX12_run 7 C) (hq : Cq G (RunM V s z h r) C) : Ew G C X 51 [some (adr G 532), none, none] [] := by
  refine Ew.aload_n hx dX12_run_51 rfl ?_
  refine Ew.getI hx dX12_run_52 fg_RX12_170 rfl ?_
  refine Ew.if_eq_t hx (tgt := 72) dX12_run_55 rfl (hL.1) ?_
  exact run_cf hk hX hS hM h34 hL hx hq
set_option maxHeartbeats 4000000 in
set_option maxRecDepth 100000 in
theorem lp_run_b {G : GT} {C : CT} {V : Mm} {s : Sv} {z : Nat} {h : Nat → Sv} {r : RR} {B : Int} {tx : Tx} {ln : Nat} (hB0 : 0 ≤ B) (hB : B + 2100000 < 2147483648) (hS : MS V z h) (hx : Cx G mX12_run 7 C) (hq : Cq G (RunM V s z h r) C) : ∀ (n i : Nat), i + n = 140 → ∀ (W : Mm) (u : Sv) (a : Nat), XF V W → MR W u → WF u (B + 15000 * (i : Int)) → (∀ m, m < 581 → W 534 m = s m) → TK W tx ln a → W 532 14 = 1 → W 532 10 = V 532 10 → W 539 = V 539 → W 532 15 = nI i → i ≤ a → rnP tx ln n u a (tE tx ln a) (W 538) i = r → Ew G C (W) 51 [some (adr G 532), none, none] [] := by
  intro n
  induction n with
  | zero =>
    intro i hi W u a hX hM hW h34 hK e14 e10 e39 e15 hia hr
    refine Ew.aload_n hx dX12_run_51 rfl ?_
    refine Ew.getI hx dX12_run_52 fg_RX12_170 rfl ?_
    refine Ew.if_eq_f hx (tgt := 72) dX12_run_55 rfl (by rw [e14]; decide) ?_
    refine Ew.aload_n hx dX12_run_58 rfl ?_
    refine Ew.getI hx dX12_run_59 fg_RX12_167 rfl ?_
    rw [hK.2.2.1]
    refine Ew.if_eq_t hx (tgt := 72) dX12_run_62 rfl (by rw [show tkK tx ln a = 0 from if_neg (by have := hK.1.2.1; omega)]; rfl) ?_
    exact run_cs hr.symm hX hS hM h34 e14 e10 e39 e15 hx hq
  | succ n ih =>
    intro i hi W u a hX hM hW h34 hK e14 e10 e39 e15 hia hr
    refine Ew.aload_n hx dX12_run_51 rfl ?_
    refine Ew.getI hx dX12_run_52 fg_RX12_170 rfl ?_
    refine Ew.if_eq_f hx (tgt := 72) dX12_run_55 rfl (by rw [e14]; decide) ?_
    refine Ew.aload_n hx dX12_run_58 rfl ?_
    refine Ew.getI hx dX12_run_59 fg_RX12_167 rfl ?_
    rw [hK.2.2.1]
    have hl := hK.1.2.1
    have h3 : tkK tx ln a < 4 := by
      unfold tkK
      split
      · have := kC_123 (tx a); omega
      · omega
    refine Ew.if_eq hx (tgt := 72) dX12_run_62 rfl (fun h62 => ?_) (fun h62 => ?_)
    · have ha : ln ≤ a := by
        rcases Nat.lt_or_ge a ln with q | q
        · have q2 := (nI_eq (a := tkK tx ln a) (b := 0) (by omega) (by omega)).mp h62
          rw [show tkK tx ln a = kC (tx a) from if_pos q] at q2
          have := kC_123 (tx a)
          omega
        · exact q
      exact run_cs ((cif_t ha).symm.trans hr).symm hX hS hM h34 e14 e10 e39 e15 hx hq
    · have ha : a < ln := by
        rcases Nat.lt_or_ge a ln with q | q
        · exact q
        · exact absurd (by rw [show tkK tx ln a = 0 from if_neg (by omega)]; rfl) h62
      refine Ew.aload_n hx dX12_run_65 rfl ?_
      refine Ew.callV2 (y' := mX12_command) hx dX12_run_66 ml_RX12_222 cf_X12_command cv_X12_command (ct_X12_command G W hM hW hK ha e14 e15) rfl oc_19 rfl (by decide) (by decide) rfl (Nat.le_of_ble_eq_true rfl) ?_
      rintro _ W9 ⟨rfl, hj, hi9, h9⟩
      refine Ew.goto hx (tgt := 51) dX12_run_69 rfl ?_
      have hr2 := (cif_f (by omega)).symm.trans hr
      have hX9 : XF V W9 := ⟨fun j q => (hj j (by omega)).trans (hX.1 j q), fun i q1 q2 => (hi9 i q1).trans (hX.2 i q1 q2)⟩
      have h349 : ∀ m, m < 581 → W9 534 m = s m := fun m hm => by rw [hj 534 (by decide)]; exact h34 m hm
      rcases h9 with ⟨w7, hc, hM9, hK9, hb9, e8, hN9, e159⟩ | ⟨w7, hc, hM9, hL9⟩ | ⟨w7, hM9, hL9⟩
      · have hr3 := (cif_t hc).symm.trans ((cif_t w7).symm.trans hr2)
        have hk := ok_W (by omega) (by omega) hW (rdC tx ln a (tE tx ln a) (W 538)).2.2.2 w7
        refine ih (i + 1) (by omega) W9 _ _ hX9 hM9 ((hk.2.1 hc).mono (by omega)) h349 hK9 (hN9.1.trans e14) (hN9.2.1.trans e10) (hN9.2.2.trans e39) e159 (by have := rdC_lt ha w7; omega) ?_
        rw [← hb9, e8]
        exact hr3
      · have hr3 := (cif_f hc).symm.trans ((cif_t w7).symm.trans hr2)
        subst hr3
        refine run_x (u := u) ?_ hX9 hS hM9 h349 hL9 hx hq
        show cif _ (2 : Int32) 3 ≠ 0
        by_cases q : cdW u (rdC tx ln a (tE tx ln a) (W 538)).2.2.2 (rdC tx ln a (tE tx ln a) (W 538)).1 = -100001
        · rw [cif_t q]; decide
        · rw [cif_f q]; decide
      · have hr3 := (cif_f w7).symm.trans hr2
        subst hr3
        exact run_x (u := u) (show (1 : Int32) ≠ 0 by decide) hX9 hS hM9 h349 hL9 hx hq
set_option maxHeartbeats 4000000 in
set_option maxRecDepth 100000 in
theorem lp_run_a {G : GT} {C : CT} {V : Mm} {s : Sv} {B : Int} {z : Nat} {h : Nat → Sv} {tx : Tx} {ln : Nat} (hM : MR V s) (hW : WF s B) (hS : MS V z h) (hT : MT2 V tx ln) (hB0 : 0 ≤ B) (hB : B + 2100000 < 2147483648) (hx : Cx G mX12_run 7 C) (hq : Cq G (RunM V s z h (rnR tx ln s)) C) : ∀ (n i : Nat), i + n = 581 → ∀ W : Mm, (∀ m, m < i → W 534 m = s m) → (∀ k, k ≠ 534 → W k = mup V 532 0 0 k) → Ew G C (W) 7 [some (adr G 532), some (.int (nI i)), none] [] := by
  intro n
  induction n with
  | zero =>
    intro i hi W hR hF
    refine Ew.iload_n hx dX12_run_7 rfl ?_
    refine Ew.sipush hx dX12_run_8 k_sipush_581 ?_
    refine Ew.icmp_ge_t hx (tgt := 32) dX12_run_11 rfl (nI_le (a := 581) (b := i) (by omega) (by omega)) ?_
    have e581 : i = 581 := by omega
    subst e581
    refine Ew.aload_n hx dX12_run_32 rfl ?_
    refine Ew.iconst hx dX12_run_33 k_iconst_0 ?_
    refine Ew.putI hx dX12_run_34 pg_RX12_158 rfl ?_
    refine Ew.aload_n hx dX12_run_37 rfl ?_
    refine Ew.iconst hx dX12_run_38 k_iconst_1 ?_
    refine Ew.putZ hx dX12_run_39 pg_RX12_170 rfl (Or.inr rfl) ?_
    refine Ew.aload_n hx dX12_run_42 rfl ?_
    refine Ew.iconst hx dX12_run_43 k_iconst_0 ?_
    refine Ew.putI hx dX12_run_44 pg_RX12_177 rfl ?_
    refine Ew.aload_n hx dX12_run_47 rfl ?_
    refine Ew.callV2 (y' := mX12_next) hx dX12_run_48 ml_RX12_193 cf_X12_next cv_X12_next (ct_X12_next G _ (tx := tx) (ln := ln) (b := 0) ⟨by rw [mup_oth _ _ _ _ (Or.inr (by decide)), mup_oth _ _ _ _ (Or.inr (by decide)), mup_oth _ _ _ _ (Or.inr (by decide)), hF 532 (by decide), mup_oth _ _ _ _ (Or.inr (by decide))]; exact hT.1, hT.2.1, fun j hj => by rw [mup_ne _ _ _ (by decide), mup_ne _ _ _ (by decide), mup_ne _ _ _ (by decide), hF 537 (by decide), mup_ne _ _ _ (by decide)]; exact hT.2.2 j hj⟩ (Nat.zero_le _) (by rw [mup_oth _ _ _ _ (Or.inr (by decide)), mup_oth _ _ _ _ (Or.inr (by decide)), mup_self]; rfl)) rfl oc_19 rfl (by decide) (by decide) rfl (Nat.le_of_ble_eq_true rfl) ?_
    rintro _ W1 ⟨rfl, hN1, hK1⟩
    have hW1 : ∀ j, j ≠ 532 → W1 j = W j := fun j hj => by rw [hN1.1 j hj, mup_ne _ _ _ hj, mup_ne _ _ _ hj, mup_ne _ _ _ hj]
    have hi1 : ∀ i, i < 11 → i ≠ 0 → W1 532 i = V 532 i := fun i q1 q2 => by rw [hN1.2 i (by omega), mup_oth _ _ _ _ (Or.inr (by omega)), mup_oth _ _ _ _ (Or.inr (by omega)), mup_oth _ _ _ _ (Or.inr (by omega)), hF 532 (by decide), mup_oth _ _ _ _ (Or.inr q2)]
    refine Ew.drop 1 (lp_run_b hB0 hB hS hx hq 140 0 rfl W1 s _ ⟨fun j hj => ?_, fun i q1 q2 => hi1 i (by omega) q2⟩ (hM.fr ?_) (hW.mono (by omega)) (fun m hm => ?_) hK1 ?_ (hi1 10 (by decide) (by decide)) ?_ ?_ (Nat.zero_le _) ?_)
    · rw [hW1 j (by omega), hF j (by omega), mup_ne _ _ _ (by omega)]
    · rw [hW1 533 (by decide), hF 533 (by decide), mup_ne _ _ _ (by decide)]
    · rw [hW1 534 (by decide)]; exact hR m hm
    · rw [hN1.2 14 (by decide), mup_oth _ _ _ _ (Or.inr (by decide)), mup_self]
    · rw [hW1 539 (by decide), hF 539 (by decide), mup_ne _ _ _ (by decide)]
    · rw [hN1.2 15 (by decide), mup_self]; rfl
    · exact rnP_N tx ln 140 s _ _ _ _ 0
  | succ n ih =>
    intro i hi W hR hF
    refine Ew.iload_n hx dX12_run_7 rfl ?_
    refine Ew.sipush hx dX12_run_8 k_sipush_581 ?_
    refine Ew.icmp_ge_f hx (tgt := 32) dX12_run_11 rfl (nI_ge (a := i) (b := 581) (by omega) (by omega)) ?_
    refine Ew.aload_n hx dX12_run_14 rfl ?_
    refine Ew.getR (534) hx dX12_run_15 fg_RX12_13 rfl rfl ?_
    refine Ew.iload_n hx dX12_run_18 rfl ?_
    refine Ew.aload_n hx dX12_run_19 rfl ?_
    refine Ew.getR (533) hx dX12_run_20 fg_RX12_7 rfl rfl ?_
    refine Ew.iload_n hx dX12_run_23 rfl ?_
    refine Ew.iald (i := i) hx dX12_run_24 ag_20 rfl (rfl) (by omega) ?_
    rw [hF 533 (by decide), mup_ne _ _ _ (by decide), hM i (by omega)]
    refine Ew.iast (i := i) hx dX12_run_25 ag_20 rfl (rfl) (by omega) ?_
    refine Ew.iinc hx dX12_run_26 rfl (k_iinc_1 _) (by decide) rfl ?_
    refine Ew.goto hx (tgt := 7) dX12_run_29 rfl ?_
    rw [nI_1]
    refine ih (i + 1) (by omega) _ (fun m hm => ?_) (fun k hk => by rw [mup_ne _ _ _ hk]; exact hF k hk)
    rw [mup_same]
    by_cases q : m = i
    · subst q
      rw [upd_s]
    · rw [upd_n _ _ q]
      exact hR m (by omega)
set_option maxHeartbeats 4000000 in
set_option maxRecDepth 100000 in
theorem ct_X12_run (G : GT) (V : Mm) {s : Sv} {B : Int} {z : Nat} {h : Nat → Sv} {tx : Tx} {ln : Nat} (hM : MR V s) (hW : WF s B) (hS : MS V z h) (hT : MT2 V tx ln) (hB0 : 0 ≤ B) (hB : B + 2100000 < 2147483648) : Ct G mX12_run 7 [adr G 532] (V) (RunM V s z h (rnR tx ln s)) := by
  refine Ct.of cf_X12_run (List.forall_mem_cons.mpr ⟨rfl, fun _ h => absurd h List.not_mem_nil⟩) (Nat.le_of_ble_eq_true rfl) (l0 := [some (adr G 532), none, none]) rfl (fun C hx hq => ?_)
  refine Ew.aload_n hx dX12_run_0 rfl ?_
  refine Ew.iconst hx dX12_run_1 k_iconst_0 ?_
  refine Ew.putI hx dX12_run_2 pg_RX12_31 rfl ?_
  refine Ew.iconst hx dX12_run_5 k_iconst_0 ?_
  refine Ew.istore_n hx dX12_run_6 (by decide) rfl ?_
  exact lp_run_a hM hW hS hT hB0 hB hx hq 581 0 rfl _ (fun m hm => absurd hm (Nat.not_lt_zero m)) (fun _ _ => rfl)
