set_option maxHeartbeats 4000000 in
set_option maxRecDepth 100000 in
theorem lk_ramps {G : GT} {C : CT} {k a0 b0 : Nat} {E0 : ET} {fsv : List Value} (hx : Cx G mX7_init 2 C) (hA : AOs (cS C)) (hs : (cS C).heap.size + a0 = gB G + (k + 8)) (hca : a0 + 4 ≤ cK C) (hcb : b0 + 12 ≤ cN C) (hkt : ∀ i, i < 4 → Kt G mX6_init 1 0 0 (k + 8 + 1 * i) 1 (.inr (4, [.int 0, .int 0, .int 0]))) (hkd : ∀ i, i < 4 → kd (k + 8 + 1 * i) = 9) (hE0 : E0 k = .inr (5, fsv)) (hf : fsv[2]? = some (adr G (k + 6))) (hend : ∀ E : ET, (∀ q, q ≠ k + 6 → q < k + 8 → E q = E0 q) → E (k + 6) = .inl (gA G 4, (4, .inr (.inr (.inr (.inr (fun x => if x < 4 then some (gB G + (k + 8 + 1 * x)) else none)))))) → (∀ q, k + 8 ≤ q → q < k + 8 + 1 * 4 → E q = entF G q (V0 q)) → Fw G C (k + 8 + 1 * 4) E (a0 + 1 * 4) (b0 + 3 * 4) 69 [some (adr G k), some (.int (nI 4))] []) : ∀ n i, i + n = 4 → ∀ E : ET, (∀ q, q ≠ k + 6 → q < k + 8 → E q = E0 q) → E (k + 6) = .inl (gA G 4, (4, .inr (.inr (.inr (.inr (fun x => if x < i then some (gB G + (k + 8 + 1 * x)) else none)))))) → (∀ q, k + 8 ≤ q → q < k + 8 + 1 * i → E q = entF G q (V0 q)) → Fw G C (k + 8 + 1 * i) E (a0 + 1 * i) (b0 + 3 * i) 45 [some (adr G k), some (.int (nI i))] [] := by
  intro n
  induction n with
  | zero =>
    intro i hi E h1 h2 h3
    have ei : i = 4 := by omega
    subst ei
    refine Fw.iload_n hx dX7_init_45 rfl ?_
    refine Fw.iconst hx dX7_init_46 k_iconst_4 ?_
    refine Fw.icmp_ge_t hx (tgt := 69) dX7_init_47 rfl (nI_le (a := 4) (b := 4) (by omega) (by omega)) ?_
    exact hend E h1 h2 h3
  | succ n ih =>
    intro i hi E h1 h2 h3
    refine Fw.iload_n hx dX7_init_45 rfl ?_
    refine Fw.iconst hx dX7_init_46 k_iconst_4 ?_
    refine Fw.icmp_ge_f hx (tgt := 69) dX7_init_47 rfl (nI_ge (a := i) (b := 4) (by omega) (by omega)) ?_
    refine Fw.aload_n hx dX7_init_50 rfl ?_
    refine Fw.get hx dX7_init_51 pn_RX7_27 (by omega) ((h1 k (by omega) (by omega)).trans hE0) hf ?_
    refine Fw.iload_n hx dX7_init_54 rfl ?_
    refine Fw.new hx dX7_init_55 kl_RX7_25 kj_RX6 kz_RX6 (ci := 4) rfl fw_RX6 tyX6 tyX6_ok df_RX6 (by omega) (by omega) ?_
    refine Fw.dup hx dX7_init_58 rfl ?_
    refine Fw.callIN (y' := mX6_init) hx hA dX7_init_59 (host := RX11) (List.mem_of_getElem? (i := 2) rfl) cf_X6_init ci_X6_init rfl rfl (hkt i (by omega)) (upE_s _ _ _) (by decide) (by decide) (by omega) (by omega) (Nat.le_of_ble_eq_true rfl) ?_
    refine Fw.aast (i := i) (n := 4) (t := 4) (ci := 4) (w := k + 8 + 1 * i) hx (by omega) dX7_init_62 rfl rfl (by omega) ((fin_lo _ _ (by omega)).trans ((upE_n _ _ (by omega)).trans h2)) (by omega) ((fin_hi _ _ (Nat.le_refl _)).trans (ent_o (hkd i (by omega)) rfl)) rfl (by omega) (by decide) ?_
    refine Fw.iinc hx dX7_init_63 rfl (k_iinc_1 _) (by decide) rfl ?_
    refine Fw.goto hx (tgt := 45) dX7_init_66 rfl ?_
    rw [nI_1]
    rw [show k + 8 + 1 * i + 1 = k + 8 + 1 * (i + 1) by omega, show a0 + 1 * i + 1 + 0 = a0 + 1 * (i + 1) by omega, show b0 + 3 * i + 3 + 0 = b0 + 3 * (i + 1) by omega]
    exact ih (i + 1) (by omega) _ (fun q hq1 hq2 => (upE_n _ _ hq1).trans ((fin_lo _ _ (by omega)).trans ((upE_n _ _ (by omega)).trans (h1 q hq1 hq2)))) ((upE_s _ _ _).trans (rfn (vup_s (fun x => gB G + (k + 8 + 1 * x)) i))) (fun q hq1 hq2 => (upE_n _ _ (by omega)).trans (by
      rcases Nat.lt_or_ge q (k + 8 + 1 * i) with z | z
      · exact (fin_lo _ _ z).trans ((upE_n _ _ (by omega)).trans (h3 q hq1 z))
      · exact fin_hi _ _ z))
set_option maxHeartbeats 4000000 in
set_option maxRecDepth 100000 in
theorem lk_perms {G : GT} {C : CT} {k a0 b0 : Nat} {E0 : ET} {fsv : List Value} (hx : Cx G mX7_init 2 C) (hA : AOs (cS C)) (hs : (cS C).heap.size + a0 = gB G + (k + 12)) (hca : a0 + 12 ≤ cK C) (hcb : b0 + 144 ≤ cN C) (hkt : ∀ i, i < 12 → Kt G mX4_init 1 0 0 (k + 12 + 1 * i) 1 (.inr (2, [.int 0, .int 0, .int 0, .int 0, .int 0, .int 0, .int 0, .int 0, .int 0, .int 0, .int 0, .int 0]))) (hkd : ∀ i, i < 12 → kd (k + 12 + 1 * i) = 10) (hE0 : E0 k = .inr (5, fsv)) (hf : fsv[3]? = some (adr G (k + 7))) (hend : ∀ E : ET, (∀ q, q ≠ k + 7 → q < k + 12 → E q = E0 q) → E (k + 7) = .inl (gA G 5, (12, .inr (.inr (.inr (.inr (fun x => if x < 12 then some (gB G + (k + 12 + 1 * x)) else none)))))) → (∀ q, k + 12 ≤ q → q < k + 12 + 1 * 12 → E q = entF G q (V0 q)) → Fw G C (k + 12 + 1 * 12) E (a0 + 1 * 12) (b0 + 12 * 12) 96 [some (adr G k), some (.int (nI 12))] []) : ∀ n i, i + n = 12 → ∀ E : ET, (∀ q, q ≠ k + 7 → q < k + 12 → E q = E0 q) → E (k + 7) = .inl (gA G 5, (12, .inr (.inr (.inr (.inr (fun x => if x < i then some (gB G + (k + 12 + 1 * x)) else none)))))) → (∀ q, k + 12 ≤ q → q < k + 12 + 1 * i → E q = entF G q (V0 q)) → Fw G C (k + 12 + 1 * i) E (a0 + 1 * i) (b0 + 12 * i) 71 [some (adr G k), some (.int (nI i))] [] := by
  intro n
  induction n with
  | zero =>
    intro i hi E h1 h2 h3
    have ei : i = 12 := by omega
    subst ei
    refine Fw.iload_n hx dX7_init_71 rfl ?_
    refine Fw.bipush hx dX7_init_72 k_bipush_12 ?_
    refine Fw.icmp_ge_t hx (tgt := 96) dX7_init_74 rfl (nI_le (a := 12) (b := 12) (by omega) (by omega)) ?_
    exact hend E h1 h2 h3
  | succ n ih =>
    intro i hi E h1 h2 h3
    refine Fw.iload_n hx dX7_init_71 rfl ?_
    refine Fw.bipush hx dX7_init_72 k_bipush_12 ?_
    refine Fw.icmp_ge_f hx (tgt := 96) dX7_init_74 rfl (nI_ge (a := i) (b := 12) (by omega) (by omega)) ?_
    refine Fw.aload_n hx dX7_init_77 rfl ?_
    refine Fw.get hx dX7_init_78 pn_RX7_33 (by omega) ((h1 k (by omega) (by omega)).trans hE0) hf ?_
    refine Fw.iload_n hx dX7_init_81 rfl ?_
    refine Fw.new hx dX7_init_82 kl_RX7_31 kj_RX4 kz_RX4 (ci := 2) rfl fw_RX4 tyX4 tyX4_ok df_RX4 (by omega) (by omega) ?_
    refine Fw.dup hx dX7_init_85 rfl ?_
    refine Fw.callIN (y' := mX4_init) hx hA dX7_init_86 (host := RX11) (List.mem_of_getElem? (i := 3) rfl) cf_X4_init ci_X4_init rfl rfl (hkt i (by omega)) (upE_s _ _ _) (by decide) (by decide) (by omega) (by omega) (Nat.le_of_ble_eq_true rfl) ?_
    refine Fw.aast (i := i) (n := 12) (t := 5) (ci := 2) (w := k + 12 + 1 * i) hx (by omega) dX7_init_89 rfl rfl (by omega) ((fin_lo _ _ (by omega)).trans ((upE_n _ _ (by omega)).trans h2)) (by omega) ((fin_hi _ _ (Nat.le_refl _)).trans (ent_o (hkd i (by omega)) rfl)) rfl (by omega) (by decide) ?_
    refine Fw.iinc hx dX7_init_90 rfl (k_iinc_1 _) (by decide) rfl ?_
    refine Fw.goto hx (tgt := 71) dX7_init_93 rfl ?_
    rw [nI_1]
    rw [show k + 12 + 1 * i + 1 = k + 12 + 1 * (i + 1) by omega, show a0 + 1 * i + 1 + 0 = a0 + 1 * (i + 1) by omega, show b0 + 12 * i + 12 + 0 = b0 + 12 * (i + 1) by omega]
    exact ih (i + 1) (by omega) _ (fun q hq1 hq2 => (upE_n _ _ hq1).trans ((fin_lo _ _ (by omega)).trans ((upE_n _ _ (by omega)).trans (h1 q hq1 hq2)))) ((upE_s _ _ _).trans (rfn (vup_s (fun x => gB G + (k + 12 + 1 * x)) i))) (fun q hq1 hq2 => (upE_n _ _ (by omega)).trans (by
      rcases Nat.lt_or_ge q (k + 12 + 1 * i) with z | z
      · exact (fin_lo _ _ z).trans ((upE_n _ _ (by omega)).trans (h3 q hq1 z))
      · exact fin_hi _ _ z))
set_option maxHeartbeats 4000000 in
set_option maxRecDepth 100000 in
theorem lk_slots {G : GT} {C : CT} {k a0 b0 : Nat} {E0 : ET} {fsv : List Value} (hx : Cx G mX8_init 3 C) (hA : AOs (cS C)) (hs : (cS C).heap.size + a0 = gB G + (k + 27)) (hca : a0 + 48 ≤ cK C) (hcb : b0 + 432 ≤ cN C) (hkt : ∀ i, i < 2 → Kt G mX7_init 2 23 210 (k + 27 + 24 * i) 24 (.inr (5, [.null, .null, .null, .null, .int 0, .int 0]))) (hkd : ∀ i, i < 2 → kd (k + 27 + 24 * i) = 2) (hE0 : E0 k = .inr (6, fsv)) (hf : fsv[1]? = some (adr G (k + 25))) (hend : ∀ E : ET, (∀ q, q ≠ k + 25 → q < k + 27 → E q = E0 q) → E (k + 25) = .inl (gA G 3, (2, .inr (.inr (.inr (.inr (fun x => if x < 2 then some (gB G + (k + 27 + 24 * x)) else none)))))) → (∀ q, k + 27 ≤ q → q < k + 27 + 24 * 2 → E q = entF G q (V0 q)) → Fw G C (k + 27 + 24 * 2) E (a0 + 24 * 2) (b0 + 216 * 2) 56 [some (adr G k), some (.int (nI 2))] []) : ∀ n i, i + n = 2 → ∀ E : ET, (∀ q, q ≠ k + 25 → q < k + 27 → E q = E0 q) → E (k + 25) = .inl (gA G 3, (2, .inr (.inr (.inr (.inr (fun x => if x < i then some (gB G + (k + 27 + 24 * x)) else none)))))) → (∀ q, k + 27 ≤ q → q < k + 27 + 24 * i → E q = entF G q (V0 q)) → Fw G C (k + 27 + 24 * i) E (a0 + 24 * i) (b0 + 216 * i) 32 [some (adr G k), some (.int (nI i))] [] := by
  intro n
  induction n with
  | zero =>
    intro i hi E h1 h2 h3
    have ei : i = 2 := by omega
    subst ei
    refine Fw.iload_n hx dX8_init_32 rfl ?_
    refine Fw.iconst hx dX8_init_33 k_iconst_2 ?_
    refine Fw.icmp_ge_t hx (tgt := 56) dX8_init_34 rfl (nI_le (a := 2) (b := 2) (by omega) (by omega)) ?_
    exact hend E h1 h2 h3
  | succ n ih =>
    intro i hi E h1 h2 h3
    refine Fw.iload_n hx dX8_init_32 rfl ?_
    refine Fw.iconst hx dX8_init_33 k_iconst_2 ?_
    refine Fw.icmp_ge_f hx (tgt := 56) dX8_init_34 rfl (nI_ge (a := i) (b := 2) (by omega) (by omega)) ?_
    refine Fw.aload_n hx dX8_init_37 rfl ?_
    refine Fw.get hx dX8_init_38 pn_RX8_18 (by omega) ((h1 k (by omega) (by omega)).trans hE0) hf ?_
    refine Fw.iload_n hx dX8_init_41 rfl ?_
    refine Fw.new hx dX8_init_42 kl_RX8_9 kj_RX7 kz_RX7 (ci := 5) rfl fw_RX7 tyX7 tyX7_ok df_RX7 (by omega) (by omega) ?_
    refine Fw.dup hx dX8_init_45 rfl ?_
    refine Fw.callI (y' := mX7_init) hx hA dX8_init_46 ml_RX8_11 cf_X7_init ci_X7_init rfl rfl (hkt i (by omega)) (upE_s _ _ _) (by decide) (by decide) (by omega) (by omega) (Nat.le_of_ble_eq_true rfl) ?_
    refine Fw.aast (i := i) (n := 2) (t := 3) (ci := 5) (w := k + 27 + 24 * i) hx (by omega) dX8_init_49 rfl rfl (by omega) ((fin_lo _ _ (by omega)).trans ((upE_n _ _ (by omega)).trans h2)) (by omega) ((fin_hi _ _ (Nat.le_refl _)).trans (ent_o (hkd i (by omega)) rfl)) rfl (by omega) (by decide) ?_
    refine Fw.iinc hx dX8_init_50 rfl (k_iinc_1 _) (by decide) rfl ?_
    refine Fw.goto hx (tgt := 32) dX8_init_53 rfl ?_
    rw [nI_1]
    rw [show k + 27 + 24 * i + 24 = k + 27 + 24 * (i + 1) by omega, show a0 + 24 * i + 1 + 23 = a0 + 24 * (i + 1) by omega, show b0 + 216 * i + 6 + 210 = b0 + 216 * (i + 1) by omega]
    exact ih (i + 1) (by omega) _ (fun q hq1 hq2 => (upE_n _ _ hq1).trans ((fin_lo _ _ (by omega)).trans ((upE_n _ _ (by omega)).trans (h1 q hq1 hq2)))) ((upE_s _ _ _).trans (rfn (vup_s (fun x => gB G + (k + 27 + 24 * x)) i))) (fun q hq1 hq2 => (upE_n _ _ (by omega)).trans (by
      rcases Nat.lt_or_ge q (k + 27 + 24 * i) with z | z
      · exact (fin_lo _ _ z).trans ((upE_n _ _ (by omega)).trans (h3 q hq1 z))
      · exact fin_hi _ _ z))
set_option maxHeartbeats 4000000 in
set_option maxRecDepth 100000 in
theorem lk_rows {G : GT} {C : CT} {k a0 b0 : Nat} {E0 : ET} {fsv : List Value} (hx : Cx G mX3_init 4 C) (hA : AOs (cS C)) (hs : (cS C).heap.size + a0 = gB G + (k + 2)) (hca : a0 + 450 ≤ cK C) (hcb : b0 + 3930 ≤ cN C) (hkt : ∀ i, i < 6 → Kt G mX8_init 3 74 652 (k + 2 + 75 * i) 75 (.inr (6, [.null, .null, .null]))) (hkd : ∀ i, i < 6 → kd (k + 2 + 75 * i) = 1) (hE0 : E0 k = .inr (1, fsv)) (hf : fsv[0]? = some (adr G (k + 1))) (hend : ∀ E : ET, (∀ q, q ≠ k + 1 → q < k + 2 → E q = E0 q) → E (k + 1) = .inl (gA G 6, (6, .inr (.inr (.inr (.inr (fun x => if x < 6 then some (gB G + (k + 2 + 75 * x)) else none)))))) → (∀ q, k + 2 ≤ q → q < k + 2 + 75 * 6 → E q = entF G q (V0 q)) → Fw G C (k + 2 + 75 * 6) E (a0 + 75 * 6) (b0 + 655 * 6) 39 [some (adr G k), some (.int (nI 6))] []) : ∀ n i, i + n = 6 → ∀ E : ET, (∀ q, q ≠ k + 1 → q < k + 2 → E q = E0 q) → E (k + 1) = .inl (gA G 6, (6, .inr (.inr (.inr (.inr (fun x => if x < i then some (gB G + (k + 2 + 75 * x)) else none)))))) → (∀ q, k + 2 ≤ q → q < k + 2 + 75 * i → E q = entF G q (V0 q)) → Fw G C (k + 2 + 75 * i) E (a0 + 75 * i) (b0 + 655 * i) 15 [some (adr G k), some (.int (nI i))] [] := by
  intro n
  induction n with
  | zero =>
    intro i hi E h1 h2 h3
    have ei : i = 6 := by omega
    subst ei
    refine Fw.iload_n hx dX3_init_15 rfl ?_
    refine Fw.iconst hx dX3_init_16 k_iconst_5 ?_
    refine Fw.icmp_gt_t hx (tgt := 39) dX3_init_17 rfl (nI_lt (a := 5) (b := 6) (by omega) (by omega)) ?_
    exact hend E h1 h2 h3
  | succ n ih =>
    intro i hi E h1 h2 h3
    refine Fw.iload_n hx dX3_init_15 rfl ?_
    refine Fw.iconst hx dX3_init_16 k_iconst_5 ?_
    refine Fw.icmp_gt_f hx (tgt := 39) dX3_init_17 rfl (nI_nlt (a := 5) (b := i) (by omega) (by omega)) ?_
    refine Fw.aload_n hx dX3_init_20 rfl ?_
    refine Fw.get hx dX3_init_21 pn_RX3_11 (by omega) ((h1 k (by omega) (by omega)).trans hE0) hf ?_
    refine Fw.iload_n hx dX3_init_24 rfl ?_
    refine Fw.new hx dX3_init_25 kl_RX3_9 kj_RX8 kz_RX8 (ci := 6) rfl fw_RX8 tyX8 tyX8_ok df_RX8 (by omega) (by omega) ?_
    refine Fw.dup hx dX3_init_28 rfl ?_
    refine Fw.callI (y' := mX8_init) hx hA dX3_init_29 ml_RX3_17 cf_X8_init ci_X8_init rfl rfl (hkt i (by omega)) (upE_s _ _ _) (by decide) (by decide) (by omega) (by omega) (Nat.le_of_ble_eq_true rfl) ?_
    refine Fw.aast (i := i) (n := 6) (t := 6) (ci := 6) (w := k + 2 + 75 * i) hx (by omega) dX3_init_32 rfl rfl (by omega) ((fin_lo _ _ (by omega)).trans ((upE_n _ _ (by omega)).trans h2)) (by omega) ((fin_hi _ _ (Nat.le_refl _)).trans (ent_o (hkd i (by omega)) rfl)) rfl (by omega) (by decide) ?_
    refine Fw.iinc hx dX3_init_33 rfl (k_iinc_1 _) (by decide) rfl ?_
    refine Fw.goto hx (tgt := 15) dX3_init_36 rfl ?_
    rw [nI_1]
    rw [show k + 2 + 75 * i + 75 = k + 2 + 75 * (i + 1) by omega, show a0 + 75 * i + 1 + 74 = a0 + 75 * (i + 1) by omega, show b0 + 655 * i + 3 + 652 = b0 + 655 * (i + 1) by omega]
    exact ih (i + 1) (by omega) _ (fun q hq1 hq2 => (upE_n _ _ hq1).trans ((fin_lo _ _ (by omega)).trans ((upE_n _ _ (by omega)).trans (h1 q hq1 hq2)))) ((upE_s _ _ _).trans (rfn (vup_s (fun x => gB G + (k + 2 + 75 * x)) i))) (fun q hq1 hq2 => (upE_n _ _ (by omega)).trans (by
      rcases Nat.lt_or_ge q (k + 2 + 75 * i) with z | z
      · exact (fin_lo _ _ z).trans ((upE_n _ _ (by omega)).trans (h3 q hq1 z))
      · exact fin_hi _ _ z))
set_option maxHeartbeats 4000000 in
set_option maxRecDepth 100000 in
theorem kt_X7 (G : GT) {k : Nat} (hS : Sn k) : Kt G mX7_init 2 23 210 k 24 (.inr (5, [.null, .null, .null, .null, .int 0, .int 0])) := by
  refine Kt.of cf_X7_init rfl (by decide) (l0 := [some (adr G k), none]) rfl (fun E C hE hx hA hn hq hs0 => ?_)
  obtain ⟨hs, hcK, hcN⟩ := hs0
  obtain ⟨c0, c1, c2, c3, c4, c5, c6, c7, c8, c9⟩ := hS
  refine Fw.aload_n hx dX7_init_0 rfl ?_
  refine Fw.objInit hx dX7_init_1 ml_RX7_3 (by decide) (by decide) ?_
  refine Fw.aload_n hx dX7_init_4 rfl ?_
  refine Fw.new hx dX7_init_5 kl_RX7_9 kj_RX10 kz_RX10 (ci := 8) rfl fw_RX10 tyX10 tyX10_ok df_RX10 (by omega) (by omega) ?_
  refine Fw.dup hx dX7_init_8 rfl ?_
  refine Fw.callIN (y' := mX10_init) hx hA dX7_init_9 (host := RX11) (List.mem_of_getElem? (i := 0) rfl) cf_X10_init ci_X10_init rfl rfl (kt_X10 G c1 c2) (upE_s _ _ _) (by decide) (by decide) (by omega) (by omega) (Nat.le_of_ble_eq_true rfl) ?_
  refine Fw.put hx (by omega) hn dX7_init_12 pn_RX7_12 (by omega) ((fin_lo _ _ (by omega)).trans ((upE_n _ _ (by omega)).trans (hE))) ⟨rfl, rfl⟩ (Nat.le_of_ble_eq_true rfl) ?_
  refine Fw.aload_n hx dX7_init_15 rfl ?_
  refine Fw.new hx dX7_init_16 kl_RX7_18 kj_RX2 kz_RX2 (ci := 0) rfl fw_RX2 tyX2 tyX2_ok df_RX2 (by omega) (by omega) ?_
  refine Fw.dup hx dX7_init_19 rfl ?_
  refine Fw.callIN (y' := mX2_init) hx hA dX7_init_20 (host := RX11) (List.mem_of_getElem? (i := 1) rfl) cf_X2_init ci_X2_init rfl rfl (kt_X2 G c3 c4 c5 c6) (upE_s _ _ _) (by decide) (by decide) (by omega) (by omega) (Nat.le_of_ble_eq_true rfl) ?_
  refine Fw.put hx (by omega) hn dX7_init_23 pn_RX7_21 (by omega) ((fin_lo _ _ (by omega)).trans ((upE_n _ _ (by omega)).trans (upE_s _ _ _))) ⟨rfl, rfl⟩ (Nat.le_of_ble_eq_true rfl) ?_
  refine Fw.aload_n hx dX7_init_26 rfl ?_
  refine Fw.iconst hx dX7_init_27 k_iconst_4 ?_
  refine Fw.anew hx dX7_init_28 kl_RX7_25 hA.1 (t := 4) rfl (n := 4) rfl (by decide) (by omega) (by omega) ?_
  refine Fw.put hx (by omega) hn dX7_init_31 pn_RX7_27 (by omega) ((upE_n _ _ (by omega)).trans (upE_s _ _ _)) ⟨rfl, rfl⟩ (Nat.le_of_ble_eq_true rfl) ?_
  refine Fw.aload_n hx dX7_init_34 rfl ?_
  refine Fw.bipush hx dX7_init_35 k_bipush_12 ?_
  refine Fw.anew hx dX7_init_37 kl_RX7_31 hA.2.1 (t := 5) rfl (n := 12) rfl (by decide) (by omega) (by omega) ?_
  refine Fw.put hx (by omega) hn dX7_init_40 pn_RX7_33 (by omega) ((upE_n _ _ (by omega)).trans (upE_s _ _ _)) ⟨rfl, rfl⟩ (Nat.le_of_ble_eq_true rfl) ?_
  refine Fw.iconst hx dX7_init_43 k_iconst_0 ?_
  refine Fw.istore_n hx dX7_init_44 (by decide) rfl ?_
  show Fw G C (k + 8 + 1 * 0) _ (7 + 1 * 0) (54 + 3 * 0) 45 [some (adr G k), some (.int (nI 0))] []
  refine lk_ramps (a0 := 7) (b0 := 54) hx hA (by omega) (by omega) (by omega) (fun i hi => kt_X6 G (by rw [Nat.one_mul]; exact c8 i hi)) (fun i hi => by rw [Nat.one_mul]; exact c8 i hi) (upE_s _ _ _) (by rfl) (fun Er r1 r2 r3 => ?_) 4 0 rfl _ (fun _ _ _ => rfl) (((upE_n _ _ (by omega)).trans ((upE_n _ _ (by omega)).trans ((upE_n _ _ (by omega)).trans (upE_s _ _ _)))).trans (rfn (funext fun x => (if_neg (Nat.not_lt_zero x)).symm))) (fun q z1 z2 => absurd z2 (by omega))
  refine Fw.iconst hx dX7_init_69 k_iconst_0 ?_
  refine Fw.istore_n hx dX7_init_70 (by decide) rfl ?_
  show Fw G C (k + 12 + 1 * 0) _ (11 + 1 * 0) (66 + 12 * 0) 71 [some (adr G k), some (.int (nI 0))] []
  refine lk_perms (a0 := 11) (b0 := 66) hx hA (by omega) (by omega) (by omega) (fun i hi => kt_X4 G (by rw [Nat.one_mul]; exact c9 i hi)) (fun i hi => by rw [Nat.one_mul]; exact c9 i hi) ((r1 _ (by omega) (by omega)).trans (upE_s _ _ _)) (by rfl) (fun Ep p1 p2 p3 => ?_) 12 0 rfl _ (fun _ _ _ => rfl) (((r1 _ (by omega) (by omega)).trans ((upE_n _ _ (by omega)).trans (upE_s _ _ _))).trans (rfn (funext fun x => (if_neg (Nat.not_lt_zero x)).symm))) (fun q z1 z2 => absurd z2 (by omega))
  refine Fw.arr (k := k + 6) (g := fun x => some (gB G + (k + 6 + 2 + 1 * x))) (by omega) ((p1 _ (by omega) (by omega)).trans (r2)) (fun i hi => if_pos hi) ?_
  refine Fw.arr (k := k + 7) (g := fun x => some (gB G + (k + 7 + 5 + 1 * x))) (by omega) ((upE_n _ _ (by omega)).trans (p2)) (fun i hi => if_pos hi) ?_
  refine Fw.vret hx hA hq dX7_init_96 rfl (by omega) (by omega) (by omega) (fun q hq2 => ?_)
  by_cases h0 : q < k
  · exact ((upE_n _ _ (by omega)).trans ((upE_n _ _ (by omega)).trans ((p1 _ (by omega) (by omega)).trans ((r1 _ (by omega) (by omega)).trans ((upE_n _ _ (by omega)).trans ((upE_n _ _ (by omega)).trans ((upE_n _ _ (by omega)).trans ((upE_n _ _ (by omega)).trans ((upE_n _ _ (by omega)).trans ((fin_lo _ _ (by omega)).trans ((upE_n _ _ (by omega)).trans ((upE_n _ _ (by omega)).trans ((fin_lo _ _ (by omega)).trans (upE_n _ _ (by omega))))))))))))))).trans (fin_lo _ _ h0).symm
  · rw [fin_hi _ _ (by omega)]
    rcases (show q = k ∨ (k + 1 ≤ q ∧ q < k + 3) ∨ (k + 3 ≤ q ∧ q < k + 6) ∨ q = k + 6 ∨ q = k + 7 ∨ (k + 8 ≤ q ∧ q < k + 12) ∨ (k + 12 ≤ q ∧ q < k + 24) by omega) with e0 | hq3 | hq3 | e0 | e0 | hq3 | hq3
    · rw [e0]
      exact ((upE_n _ _ (by omega)).trans ((upE_n _ _ (by omega)).trans ((p1 _ (by omega) (by omega)).trans ((r1 _ (by omega) (by omega)).trans (upE_s _ _ _))))).trans (by rw [ent_o c0 rfl, V0_0 c0 (by decide) (by decide) (by decide)]; rfl)
    · exact ((upE_n _ _ (by omega)).trans ((upE_n _ _ (by omega)).trans ((p1 _ (by omega) (by omega)).trans ((r1 _ (by omega) (by omega)).trans ((upE_n _ _ (by omega)).trans ((upE_n _ _ (by omega)).trans ((upE_n _ _ (by omega)).trans ((upE_n _ _ (by omega)).trans ((upE_n _ _ (by omega)).trans ((fin_lo _ _ (by omega)).trans ((upE_n _ _ (by omega)).trans ((upE_n _ _ (by omega)).trans (fin_hi _ _ (by omega))))))))))))))
    · exact ((upE_n _ _ (by omega)).trans ((upE_n _ _ (by omega)).trans ((p1 _ (by omega) (by omega)).trans ((r1 _ (by omega) (by omega)).trans ((upE_n _ _ (by omega)).trans ((upE_n _ _ (by omega)).trans ((upE_n _ _ (by omega)).trans ((upE_n _ _ (by omega)).trans ((upE_n _ _ (by omega)).trans (fin_hi _ _ (by omega)))))))))))
    · rw [e0]
      exact ((upE_n _ _ (by omega)).trans (upE_s _ _ _)).trans ((ent_r c6 rfl rfl rfl).symm)
    · rw [e0]
      exact (upE_s _ _ _).trans ((ent_r c7 rfl rfl rfl).symm)
    · exact ((upE_n _ _ (by omega)).trans ((upE_n _ _ (by omega)).trans ((p1 _ (by omega) (by omega)).trans (r3 _ (by omega) (by omega)))))
    · exact ((upE_n _ _ (by omega)).trans ((upE_n _ _ (by omega)).trans (p3 _ (by omega) (by omega))))
set_option maxHeartbeats 4000000 in
set_option maxRecDepth 100000 in
theorem kt_X8 (G : GT) {k : Nat} (hT : Tn k) : Kt G mX8_init 3 74 652 k 75 (.inr (6, [.null, .null, .null])) := by
  refine Kt.of cf_X8_init rfl (by decide) (l0 := [some (adr G k), none]) rfl (fun E C hE hx hA hn hq hs0 => ?_)
  obtain ⟨hs, hcK, hcN⟩ := hs0
  obtain ⟨c0, c1, c2, c3, c4⟩ := hT
  refine Fw.aload_n hx dX8_init_0 rfl ?_
  refine Fw.objInit hx dX8_init_1 ml_RX8_3 (by decide) (by decide) ?_
  refine Fw.aload_n hx dX8_init_4 rfl ?_
  refine Fw.new hx dX8_init_5 kl_RX8_9 kj_RX7 kz_RX7 (ci := 5) rfl fw_RX7 tyX7 tyX7_ok df_RX7 (by omega) (by omega) ?_
  refine Fw.dup hx dX8_init_8 rfl ?_
  refine Fw.callI (y' := mX7_init) hx hA dX8_init_9 ml_RX8_11 cf_X7_init ci_X7_init rfl rfl (kt_X7 G c3) (upE_s _ _ _) (by decide) (by decide) (by omega) (by omega) (Nat.le_of_ble_eq_true rfl) ?_
  refine Fw.put hx (by omega) hn dX8_init_12 pn_RX8_12 (by omega) ((fin_lo _ _ (by omega)).trans ((upE_n _ _ (by omega)).trans (hE))) ⟨rfl, rfl⟩ (Nat.le_of_ble_eq_true rfl) ?_
  refine Fw.aload_n hx dX8_init_15 rfl ?_
  refine Fw.iconst hx dX8_init_16 k_iconst_2 ?_
  refine Fw.anew hx dX8_init_17 kl_RX8_9 hA.2.2.1 (t := 3) rfl (n := 2) rfl (by decide) (by omega) (by omega) ?_
  refine Fw.put hx (by omega) hn dX8_init_20 pn_RX8_18 (by omega) ((upE_n _ _ (by omega)).trans (upE_s _ _ _)) ⟨rfl, rfl⟩ (Nat.le_of_ble_eq_true rfl) ?_
  refine Fw.aload_n hx dX8_init_23 rfl ?_
  refine Fw.iconst hx dX8_init_24 k_iconst_2 ?_
  refine Fw.newa hx dX8_init_25 ka_boolean (t := 2) rfl (n := 2) rfl (by decide) (by decide) (fun _ => rfl) (arZ G) (by omega) (by omega) ?_
  refine Fw.put hx (by omega) hn dX8_init_27 pn_RX8_22 (by omega) ((upE_n _ _ (by omega)).trans (upE_s _ _ _)) ⟨rfl, rfl⟩ (Nat.le_of_ble_eq_true rfl) ?_
  refine Fw.iconst hx dX8_init_30 k_iconst_0 ?_
  refine Fw.istore_n hx dX8_init_31 (by decide) rfl ?_
  show Fw G C (k + 27 + 24 * 0) _ (26 + 24 * 0) (220 + 216 * 0) 32 [some (adr G k), some (.int (nI 0))] []
  refine lk_slots (a0 := 26) (b0 := 220) hx hA (by omega) (by omega) (by omega) (fun i hi => kt_X7 G (c4 i hi)) (fun i hi => (c4 i hi).1) (upE_s _ _ _) (by rfl) (fun Er r1 r2 r3 => ?_) 2 0 rfl _ (fun _ _ _ => rfl) (((upE_n _ _ (by omega)).trans ((upE_n _ _ (by omega)).trans ((upE_n _ _ (by omega)).trans (upE_s _ _ _)))).trans (rfn (funext fun x => (if_neg (Nat.not_lt_zero x)).symm))) (fun q z1 z2 => absurd z2 (by omega))
  refine Fw.arr (k := k + 25) (g := fun x => some (gB G + (k + 25 + 2 + 24 * x))) (by omega) (r2) (fun i hi => if_pos hi) ?_
  refine Fw.vret hx hA hq dX8_init_56 rfl (by omega) (by omega) (by omega) (fun q hq2 => ?_)
  by_cases h0 : q < k
  · exact ((upE_n _ _ (by omega)).trans ((r1 _ (by omega) (by omega)).trans ((upE_n _ _ (by omega)).trans ((upE_n _ _ (by omega)).trans ((upE_n _ _ (by omega)).trans ((upE_n _ _ (by omega)).trans ((upE_n _ _ (by omega)).trans ((fin_lo _ _ (by omega)).trans (upE_n _ _ (by omega)))))))))).trans (fin_lo _ _ h0).symm
  · rw [fin_hi _ _ (by omega)]
    rcases (show q = k ∨ (k + 1 ≤ q ∧ q < k + 25) ∨ q = k + 25 ∨ q = k + 26 ∨ (k + 27 ≤ q ∧ q < k + 75) by omega) with e0 | hq3 | e0 | e0 | hq3
    · rw [e0]
      exact ((upE_n _ _ (by omega)).trans ((r1 _ (by omega) (by omega)).trans (upE_s _ _ _))).trans (by rw [ent_o c0 rfl, V0_0 c0 (by decide) (by decide) (by decide)]; rfl)
    · exact ((upE_n _ _ (by omega)).trans ((r1 _ (by omega) (by omega)).trans ((upE_n _ _ (by omega)).trans ((upE_n _ _ (by omega)).trans ((upE_n _ _ (by omega)).trans ((upE_n _ _ (by omega)).trans ((upE_n _ _ (by omega)).trans (fin_hi _ _ (by omega)))))))))
    · rw [e0]
      exact (upE_s _ _ _).trans ((ent_r c1 rfl rfl rfl).symm)
    · rw [e0]
      exact ((upE_n _ _ (by omega)).trans ((r1 _ (by omega) (by omega)).trans ((upE_n _ _ (by omega)).trans (upE_s _ _ _)))).trans (by rw [ent_a c2 rfl rfl, V0_0 c2 (by decide) (by decide) (by decide)])
    · exact ((upE_n _ _ (by omega)).trans (r3 _ (by omega) (by omega)))
set_option maxHeartbeats 4000000 in
set_option maxRecDepth 100000 in
theorem kt_X3 (G : GT) {k : Nat} (c0 : kd k = 13) (c1 : kd (k + 1) = 14) (c2 : ∀ i, i < 6 → Tn (k + 2 + 75 * i)) : Kt G mX3_init 4 451 3936 k 452 (.inr (1, [.null, .int 0, .int 0])) := by
  refine Kt.of cf_X3_init rfl (by decide) (l0 := [some (adr G k), none]) rfl (fun E C hE hx hA hn hq hs0 => ?_)
  obtain ⟨hs, hcK, hcN⟩ := hs0
  refine Fw.aload_n hx dX3_init_0 rfl ?_
  refine Fw.objInit hx dX3_init_1 ml_RX3_3 (by decide) (by decide) ?_
  refine Fw.aload_n hx dX3_init_4 rfl ?_
  refine Fw.bipush hx dX3_init_5 k_bipush_6 ?_
  refine Fw.anew hx dX3_init_7 kl_RX3_9 hA.2.2.2 (t := 6) rfl (n := 6) rfl (by decide) (by omega) (by omega) ?_
  refine Fw.put hx (by omega) hn dX3_init_10 pn_RX3_11 (by omega) ((upE_n _ _ (by omega)).trans (hE)) ⟨rfl, rfl⟩ (Nat.le_of_ble_eq_true rfl) ?_
  refine Fw.iconst hx dX3_init_13 k_iconst_0 ?_
  refine Fw.istore_n hx dX3_init_14 (by decide) rfl ?_
  show Fw G C (k + 2 + 75 * 0) _ (1 + 75 * 0) (6 + 655 * 0) 15 [some (adr G k), some (.int (nI 0))] []
  refine lk_rows (a0 := 1) (b0 := 6) hx hA (by omega) (by omega) (by omega) (fun i hi => kt_X8 G (c2 i hi)) (fun i hi => (c2 i hi).1) (upE_s _ _ _) (by rfl) (fun Er r1 r2 r3 => ?_) 6 0 rfl _ (fun _ _ _ => rfl) (((upE_n _ _ (by omega)).trans (upE_s _ _ _)).trans (rfn (funext fun x => (if_neg (Nat.not_lt_zero x)).symm))) (fun q z1 z2 => absurd z2 (by omega))
  refine Fw.arr (k := k + 1) (g := fun x => some (gB G + (k + 1 + 1 + 75 * x))) (by omega) (r2) (fun i hi => if_pos hi) ?_
  refine Fw.vret hx hA hq dX3_init_39 rfl (by omega) (by omega) (by omega) (fun q hq2 => ?_)
  by_cases h0 : q < k
  · exact ((upE_n _ _ (by omega)).trans ((r1 _ (by omega) (by omega)).trans ((upE_n _ _ (by omega)).trans (upE_n _ _ (by omega))))).trans (fin_lo _ _ h0).symm
  · rw [fin_hi _ _ (by omega)]
    rcases (show q = k ∨ q = k + 1 ∨ (k + 2 ≤ q ∧ q < k + 452) by omega) with e0 | e0 | hq3
    · rw [e0]
      exact ((upE_n _ _ (by omega)).trans ((r1 _ (by omega) (by omega)).trans (upE_s _ _ _))).trans (by rw [ent_o c0 rfl, V0_0 c0 (by decide) (by decide) (by decide)]; rfl)
    · rw [e0]
      exact (upE_s _ _ _).trans ((ent_r c1 rfl rfl rfl).symm)
    · exact ((upE_n _ _ (by omega)).trans (r3 _ (by omega) (by omega)))
set_option maxHeartbeats 4000000 in
set_option maxRecDepth 100000 in
theorem kt_X11 (G : GT) {k : Nat} (hk : k = 0) : Kt G mX11_init 5 531 4748 k 532 (.inr (9, [.null, .null, .null])) := by
  refine Kt.of cf_X11_init rfl (by decide) (l0 := [some (adr G k)]) rfl (fun E C hE hx hA hn hq hs0 => ?_)
  obtain ⟨hs, hcK, hcN⟩ := hs0
  refine Fw.aload_n hx dX11_init_0 rfl ?_
  refine Fw.objInit hx dX11_init_1 ml_RX11_1 (by decide) (by decide) ?_
  refine Fw.aload_n hx dX11_init_4 rfl ?_
  refine Fw.new hx dX11_init_5 kl_RX11_7 kj_RX8 kz_RX8 (ci := 6) rfl fw_RX8 tyX8 tyX8_ok df_RX8 (by omega) (by omega) ?_
  refine Fw.dup hx dX11_init_8 rfl ?_
  refine Fw.callI (y' := mX8_init) hx hA dX11_init_9 ml_RX11_9 cf_X8_init ci_X8_init rfl rfl (kt_X8 G (by subst hk; exact tn_1)) (upE_s _ _ _) (by decide) (by decide) (by omega) (by omega) (Nat.le_of_ble_eq_true rfl) ?_
  refine Fw.put hx (by omega) hn dX11_init_12 pn_RX11_10 (by omega) ((fin_lo _ _ (by omega)).trans ((upE_n _ _ (by omega)).trans (hE))) ⟨rfl, rfl⟩ (Nat.le_of_ble_eq_true rfl) ?_
  refine Fw.aload_n hx dX11_init_15 rfl ?_
  refine Fw.new hx dX11_init_16 kl_RX11_16 kj_RX3 kz_RX3 (ci := 1) rfl fw_RX3 tyX3 tyX3_ok df_RX3 (by omega) (by omega) ?_
  refine Fw.dup hx dX11_init_19 rfl ?_
  refine Fw.callI (y' := mX3_init) hx hA dX11_init_20 ml_RX11_18 cf_X3_init ci_X3_init rfl rfl (kt_X3 G (by subst hk; rfl) (by subst hk; rfl) (fun i hi => by subst hk; exact tn_r hi)) (upE_s _ _ _) (by decide) (by decide) (by omega) (by omega) (Nat.le_of_ble_eq_true rfl) ?_
  refine Fw.put hx (by omega) hn dX11_init_23 pn_RX11_19 (by omega) ((fin_lo _ _ (by omega)).trans ((upE_n _ _ (by omega)).trans (upE_s _ _ _))) ⟨rfl, rfl⟩ (Nat.le_of_ble_eq_true rfl) ?_
  refine Fw.aload_n hx dX11_init_26 rfl ?_
  refine Fw.new hx dX11_init_27 kl_RX11_23 kj_RX5 kz_RX5 (ci := 3) rfl fw_RX5 tyX5 tyX5_ok df_RX5 (by omega) (by omega) ?_
  refine Fw.dup hx dX11_init_30 rfl ?_
  refine Fw.callIN (y' := mX5_init) hx hA dX11_init_31 (host := RX11) (List.mem_of_getElem? (i := 4) rfl) cf_X5_init ci_X5_init rfl rfl (kt_X5 G (by subst hk; rfl) (by subst hk; rfl) (by subst hk; rfl) (by subst hk; rfl)) (upE_s _ _ _) (by decide) (by decide) (by omega) (by omega) (Nat.le_of_ble_eq_true rfl) ?_
  refine Fw.put hx (by omega) hn dX11_init_34 pn_RX11_26 (by omega) ((fin_lo _ _ (by omega)).trans ((upE_n _ _ (by omega)).trans (upE_s _ _ _))) ⟨rfl, rfl⟩ (Nat.le_of_ble_eq_true rfl) ?_
  refine Fw.vret hx hA hq dX11_init_37 rfl (by omega) (by omega) (by omega) (fun q hq2 => ?_)
  by_cases h0 : q < k
  · exact ((upE_n _ _ (by omega)).trans ((fin_lo _ _ (by omega)).trans ((upE_n _ _ (by omega)).trans ((upE_n _ _ (by omega)).trans ((fin_lo _ _ (by omega)).trans ((upE_n _ _ (by omega)).trans ((upE_n _ _ (by omega)).trans ((fin_lo _ _ (by omega)).trans (upE_n _ _ (by omega)))))))))).trans (fin_lo _ _ h0).symm
  · rw [fin_hi _ _ (by omega)]
    rcases (show q = k ∨ (k + 1 ≤ q ∧ q < k + 76) ∨ (k + 76 ≤ q ∧ q < k + 528) ∨ (k + 528 ≤ q ∧ q < k + 532) by omega) with e0 | hq3 | hq3 | hq3
    · rw [e0]
      exact (upE_s _ _ _).trans (by rw [ent_o (show kd k = 0 by subst hk; rfl) rfl, V0_0 (show kd k = 0 by subst hk; rfl) (by decide) (by decide) (by decide)]; rfl)
    · exact ((upE_n _ _ (by omega)).trans ((fin_lo _ _ (by omega)).trans ((upE_n _ _ (by omega)).trans ((upE_n _ _ (by omega)).trans ((fin_lo _ _ (by omega)).trans ((upE_n _ _ (by omega)).trans ((upE_n _ _ (by omega)).trans (fin_hi _ _ (by omega)))))))))
    · exact ((upE_n _ _ (by omega)).trans ((fin_lo _ _ (by omega)).trans ((upE_n _ _ (by omega)).trans ((upE_n _ _ (by omega)).trans (fin_hi _ _ (by omega))))))
    · exact ((upE_n _ _ (by omega)).trans (fin_hi _ _ (by omega)))
