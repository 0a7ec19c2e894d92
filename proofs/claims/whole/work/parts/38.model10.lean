def zrF (g : Nat → Int32) (i : Nat) : Nat → Int32 := fun j => if j < i then 0 else g j
theorem zrF_s (g : Nat → Int32) (i j : Nat) : upd (zrF g i) i 0 j = zrF g (i + 1) j := by
  by_cases q : j = i
  · subst q
    rw [upd_s]
    exact (if_pos (by omega)).symm
  · rw [upd_n _ _ q]
    unfold zrF
    by_cases q2 : j < i
    · rw [if_pos q2, if_pos (by omega)]
    · rw [if_neg q2, if_neg (by omega)]
theorem bg_eq (g f : Nat → Int32) (x nf a b d : Int32) {j : Nat} (hj : j < 12) : upd (upd (upd (upd (upd (upd (zrF g 12) 0 x) 1 a) 2 b) 3 d) 4 nf) 5 ((b - a + 1) * nf) j = bgF f x nf a b d j := by
  have h : j = 0 ∨ j = 1 ∨ j = 2 ∨ j = 3 ∨ j = 4 ∨ j = 5 ∨ j = 6 ∨ j = 7 ∨ j = 8 ∨ j = 9 ∨ j = 10 ∨ j = 11 := by omega
  rcases h with rfl | rfl | rfl | rfl | rfl | rfl | rfl | rfl | rfl | rfl | rfl | rfl <;> simp [upd, bgF, zrF, Int32.mul_comm]
theorem prow_3 (s : Sv) (p : Nat) (g : Nat → Int32) (v : Int32) : prow (upd s 3 v) p g = upd (prow s p g) 3 v := by
  funext m
  unfold prow
  by_cases q : m = 3
  · subst q
    rw [if_neg (by omega), upd_s, upd_s]
  · rw [upd_n _ _ q, upd_n _ _ q]
theorem prow_e (s : Sv) (p : Nat) {f g : Nat → Int32} (e : ∀ j, j < 12 → f j = g j) : prow s p f = prow s p g := by
  funext m
  unfold prow
  by_cases q2 : 49 + 12 * p ≤ m ∧ m < 49 + 12 * p + 12
  · rw [if_pos q2, if_pos q2, e _ (by omega)]
  · rw [if_neg q2, if_neg q2]
set_option maxHeartbeats 4000000 in
set_option maxRecDepth 100000 in
theorem lp_X12_buy {G : GT} {C : CT} {V : Mm} {s : Sv} {p r : Nat} {a b d : Int32} (hp : p < 12) (hr4 : r < 4) (hx : Cx G mX12_buyNow 1 C) (hq : Cq G (fun v V9 => v = some (.int (nI p)) ∧ MR V9 (upd (prow s p (bgF (prw s p) (nI r) (rf s r 2) a b d)) 3 (nI p + 1)) ∧ ∀ k, k ≠ 533 → V9 k = V k) C) : ∀ (n i : Nat), i + n = 12 → ∀ W : Mm, MR W (prow (upd s 3 (nI p + 1)) p (zrF (prw (upd s 3 (nI p + 1)) p) i)) → (∀ k, k ≠ 533 → W k = V k) → Ew G C (W) 21 [some (adr G 532), some (.int (nI r)), some (.int a), some (.int b), some (.int d), some (.int (nI p)), some (.int (nI i))] [] := by
  intro n
  induction n with
  | zero =>
    intro i hi W hR hF
    have e12 : i = 12 := by omega
    subst e12
    refine Ew.iload hx dX12_buyNow_21 rfl ?_
    refine Ew.bipush hx dX12_buyNow_23 k_bipush_12 ?_
    refine Ew.icmp_ge_t hx (tgt := 43) dX12_buyNow_25 rfl (nI_le (a := 12) (b := 12) (by omega) (by omega)) ?_
    refine Ew.aload_n hx dX12_buyNow_43 rfl ?_
    refine Ew.iload hx dX12_buyNow_44 rfl ?_
    refine Ew.iconst hx dX12_buyNow_46 k_iconst_0 ?_
    refine Ew.iload_n hx dX12_buyNow_47 rfl ?_
    refine Ew.callV2 (y' := mX12_set) hx dX12_buyNow_48 ml_RX12_101 cf_X12_set cv_X12_set (ct_X12_set G _ hp (j := 0) (by decide) _) rfl oc_19 rfl (by decide) (by decide) rfl (Nat.le_of_ble_eq_true rfl) ?_
    rintro _ V9 ⟨rfl, h9⟩; subst V9
    have h1 := hR.rput (j := 0) (by decide) (nI r)
    refine Ew.aload_n hx dX12_buyNow_51 rfl ?_
    refine Ew.iload hx dX12_buyNow_52 rfl ?_
    refine Ew.iconst hx dX12_buyNow_54 k_iconst_1 ?_
    refine Ew.iload_n hx dX12_buyNow_55 rfl ?_
    refine Ew.callV2 (y' := mX12_set) hx dX12_buyNow_56 ml_RX12_101 cf_X12_set cv_X12_set (ct_X12_set G _ hp (j := 1) (by decide) _) rfl oc_19 rfl (by decide) (by decide) rfl (Nat.le_of_ble_eq_true rfl) ?_
    rintro _ V9 ⟨rfl, h9⟩; subst V9
    have h2 := h1.rput (j := 1) (by decide) a
    refine Ew.aload_n hx dX12_buyNow_59 rfl ?_
    refine Ew.iload hx dX12_buyNow_60 rfl ?_
    refine Ew.iconst hx dX12_buyNow_62 k_iconst_2 ?_
    refine Ew.iload_n hx dX12_buyNow_63 rfl ?_
    refine Ew.callV2 (y' := mX12_set) hx dX12_buyNow_64 ml_RX12_101 cf_X12_set cv_X12_set (ct_X12_set G _ hp (j := 2) (by decide) _) rfl oc_19 rfl (by decide) (by decide) rfl (Nat.le_of_ble_eq_true rfl) ?_
    rintro _ V9 ⟨rfl, h9⟩; subst V9
    have h3 := h2.rput (j := 2) (by decide) b
    refine Ew.aload_n hx dX12_buyNow_67 rfl ?_
    refine Ew.iload hx dX12_buyNow_68 rfl ?_
    refine Ew.iconst hx dX12_buyNow_70 k_iconst_3 ?_
    refine Ew.iload hx dX12_buyNow_71 rfl ?_
    refine Ew.callV2 (y' := mX12_set) hx dX12_buyNow_73 ml_RX12_101 cf_X12_set cv_X12_set (ct_X12_set G _ hp (j := 3) (by decide) _) rfl oc_19 rfl (by decide) (by decide) rfl (Nat.le_of_ble_eq_true rfl) ?_
    rintro _ V9 ⟨rfl, h9⟩; subst V9
    have h4 := h3.rput (j := 3) (by decide) d
    refine Ew.aload_n hx dX12_buyNow_76 rfl ?_
    refine Ew.iload hx dX12_buyNow_77 rfl ?_
    refine Ew.iconst hx dX12_buyNow_79 k_iconst_4 ?_
    refine Ew.aload_n hx dX12_buyNow_80 rfl ?_
    refine Ew.iload_n hx dX12_buyNow_81 rfl ?_
    refine Ew.iconst hx dX12_buyNow_82 k_iconst_2 ?_
    refine Ew.callV2 (y' := mX12_ofRamp) hx dX12_buyNow_83 ml_RX12_50 cf_X12_ofRamp cv_X12_ofRamp (ct_X12_ofRamp G _ hr4 (j := 2) (by decide)) rfl oc_19 rfl (by decide) (by decide) rfl (Nat.le_of_ble_eq_true rfl) ?_
    rintro _ V9 ⟨rfl, h9⟩; subst V9
    rw [h4 _ (by omega), prow_lo _ _ _ _ (by omega), upd_n _ _ (by omega)]
    refine Ew.callV2 (y' := mX12_set) hx dX12_buyNow_86 ml_RX12_101 cf_X12_set cv_X12_set (ct_X12_set G _ hp (j := 4) (by decide) _) rfl oc_19 rfl (by decide) (by decide) rfl (Nat.le_of_ble_eq_true rfl) ?_
    rintro _ V9 ⟨rfl, h9⟩; subst V9
    have h5 := h4.rput (j := 4) (by decide) (s (37 + 3 * r + 2))
    refine Ew.aload_n hx dX12_buyNow_89 rfl ?_
    refine Ew.iload hx dX12_buyNow_90 rfl ?_
    refine Ew.iconst hx dX12_buyNow_92 k_iconst_5 ?_
    refine Ew.iload_n hx dX12_buyNow_93 rfl ?_
    refine Ew.iload_n hx dX12_buyNow_94 rfl ?_
    refine Ew.isub hx dX12_buyNow_95 ?_
    refine Ew.iconst hx dX12_buyNow_96 k_iconst_1 ?_
    refine Ew.iadd hx dX12_buyNow_97 ?_
    refine Ew.aload_n hx dX12_buyNow_98 rfl ?_
    refine Ew.iload_n hx dX12_buyNow_99 rfl ?_
    refine Ew.iconst hx dX12_buyNow_100 k_iconst_2 ?_
    refine Ew.callV2 (y' := mX12_ofRamp) hx dX12_buyNow_101 ml_RX12_50 cf_X12_ofRamp cv_X12_ofRamp (ct_X12_ofRamp G _ hr4 (j := 2) (by decide)) rfl oc_19 rfl (by decide) (by decide) rfl (Nat.le_of_ble_eq_true rfl) ?_
    rintro _ V9 ⟨rfl, h9⟩; subst V9
    rw [h5 _ (by omega), prow_lo _ _ _ _ (by omega), upd_n _ _ (by omega)]
    refine Ew.imul hx dX12_buyNow_104 ?_
    refine Ew.callV2 (y' := mX12_set) hx dX12_buyNow_105 ml_RX12_101 cf_X12_set cv_X12_set (ct_X12_set G _ hp (j := 5) (by decide) _) rfl oc_19 rfl (by decide) (by decide) rfl (Nat.le_of_ble_eq_true rfl) ?_
    rintro _ V9 ⟨rfl, h9⟩; subst V9
    have h6 := h5.rput (j := 5) (by decide) ((b - a + 1) * s (37 + 3 * r + 2))
    refine Ew.iload hx dX12_buyNow_108 rfl ?_
    refine Ew.iret hx hq dX12_buyNow_110 rfl ?_
    refine ⟨rfl, ?_, fun q hq2 => by rw [mup_ne _ _ _ hq2, mup_ne _ _ _ hq2, mup_ne _ _ _ hq2, mup_ne _ _ _ hq2, mup_ne _ _ _ hq2, mup_ne _ _ _ hq2]; exact hF q hq2⟩
    rw [← prow_3, ← prow_e (upd s 3 (nI p + 1)) p (fun j hj => bg_eq (prw (upd s 3 (nI p + 1)) p) (prw s p) (nI r) (rf s r 2) a b d hj)]
    exact h6
  | succ n ih =>
    intro i hi W hR hF
    refine Ew.iload hx dX12_buyNow_21 rfl ?_
    refine Ew.bipush hx dX12_buyNow_23 k_bipush_12 ?_
    refine Ew.icmp_ge_f hx (tgt := 43) dX12_buyNow_25 rfl (nI_ge (a := i) (b := 12) (by omega) (by omega)) ?_
    refine Ew.aload_n hx dX12_buyNow_28 rfl ?_
    refine Ew.iload hx dX12_buyNow_29 rfl ?_
    refine Ew.iload hx dX12_buyNow_31 rfl ?_
    refine Ew.iconst hx dX12_buyNow_33 k_iconst_0 ?_
    refine Ew.callV2 (y' := mX12_set) hx dX12_buyNow_34 ml_RX12_101 cf_X12_set cv_X12_set (ct_X12_set G W hp (j := i) (by omega) _) rfl oc_19 rfl (by decide) (by decide) rfl (Nat.le_of_ble_eq_true rfl) ?_
    rintro _ V9 ⟨rfl, h9⟩; subst V9
    refine Ew.iinc hx dX12_buyNow_37 rfl (k_iinc_1 _) (by decide) rfl ?_
    refine Ew.goto hx (tgt := 21) dX12_buyNow_40 rfl ?_
    rw [nI_1]
    exact ih (i + 1) (by omega) _ ((hR.rput (j := i) (by omega) 0).rcg (fun j _ => zrF_s _ i j)) (fun q hq2 => by rw [mup_ne _ _ _ hq2]; exact hF q hq2)
set_option maxHeartbeats 4000000 in
set_option maxRecDepth 100000 in
theorem ct_X12_buyNow (G : GT) (V : Mm) {s : Sv} {B : Int} (hM : MR V s) (hW : WF s B) {r : Nat} (hr : r < nrN s) (hp : npN s < 12) (a b d : Int32) : Ct G mX12_buyNow 1 [adr G 532, .int (nI r), .int a, .int b, .int d] (V) (fun v V9 => v = some (.int (s 3)) ∧ MR V9 (nxBuy s (nI r) a b d) ∧ ∀ k, k ≠ 533 → V9 k = V k) := by
  refine Ct.of cf_X12_buyNow (List.forall_mem_cons.mpr ⟨rfl, List.forall_mem_cons.mpr ⟨rfl, List.forall_mem_cons.mpr ⟨rfl, List.forall_mem_cons.mpr ⟨rfl, List.forall_mem_cons.mpr ⟨rfl, fun _ h => absurd h List.not_mem_nil⟩⟩⟩⟩⟩) (Nat.le_of_ble_eq_true rfl) (l0 := [some (adr G 532), some (.int (nI r)), some (.int a), some (.int b), some (.int d), none, none]) rfl (fun C hx hq => ?_)
  have hr4 : r < 4 := by have := hW.nr.2; omega
  have e3 := hW.np.1
  refine Ew.aload_n hx dX12_buyNow_0 rfl ?_
  refine Ew.getR (533) hx dX12_buyNow_1 fg_RX12_7 rfl rfl ?_
  refine Ew.iconst hx dX12_buyNow_4 k_iconst_3 ?_
  refine Ew.iald (i := 3) hx dX12_buyNow_5 ag_20 rfl (rfl) (by decide) ?_
  rw [hM 3 (by decide), e3]
  refine Ew.istore hx dX12_buyNow_6 (by decide) rfl ?_
  refine Ew.aload_n hx dX12_buyNow_8 rfl ?_
  refine Ew.getR (533) hx dX12_buyNow_9 fg_RX12_7 rfl rfl ?_
  refine Ew.iconst hx dX12_buyNow_12 k_iconst_3 ?_
  refine Ew.dup2 hx dX12_buyNow_13 rfl rfl ?_
  refine Ew.iald (i := 3) hx dX12_buyNow_14 ag_20 rfl (rfl) (by decide) ?_
  rw [hM 3 (by decide), e3]
  refine Ew.iconst hx dX12_buyNow_15 k_iconst_1 ?_
  refine Ew.iadd hx dX12_buyNow_16 ?_
  refine Ew.iast (i := 3) hx dX12_buyNow_17 ag_20 rfl (rfl) (by decide) ?_
  refine Ew.iconst hx dX12_buyNow_18 k_iconst_0 ?_
  refine Ew.istore hx dX12_buyNow_19 (by decide) rfl ?_
  have hM1 := hM.put 3 (nI (npN s) + 1)
  unfold nxBuy at hq
  rw [show nt (nI r) = r from nt_nI (by omega), e3] at hq
  exact lp_X12_buy hp hr4 hx hq 12 0 rfl _ ((hM1.row (npN s)).rcg (fun j _ => (if_neg (Nat.not_lt_zero j)).symm)) (fun k hk => mup_ne _ _ _ hk)
