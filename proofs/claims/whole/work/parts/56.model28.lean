set_option maxHeartbeats 4000000 in
set_option maxRecDepth 100000 in
theorem ct_X12_spelled (G : GT) (V : Mm) {k : Nat} (hk : k < 2 ^ 31) (a b c d e f : Int32) : Ct G mX12_spelled 0 [.int (nI k), .int a, .int b, .int c, .int d, .int e, .int f] (V) (Ri ([a, b, c, d, e, f].getD k 0) V) := by
  refine Ct.of cf_X12_spelled (List.forall_mem_cons.mpr ⟨rfl, List.forall_mem_cons.mpr ⟨rfl, List.forall_mem_cons.mpr ⟨rfl, List.forall_mem_cons.mpr ⟨rfl, List.forall_mem_cons.mpr ⟨rfl, List.forall_mem_cons.mpr ⟨rfl, List.forall_mem_cons.mpr ⟨rfl, fun _ h => absurd h List.not_mem_nil⟩⟩⟩⟩⟩⟩⟩) (Nat.le_of_ble_eq_true rfl) (l0 := [some (.int (nI k)), some (.int a), some (.int b), some (.int c), some (.int d), some (.int e), some (.int f)]) rfl (fun C hx hq => ?_)
  refine Ew.iload_n hx dX12_spelled_0 rfl ?_
  refine Ew.if_ne hx (tgt := 8) dX12_spelled_1 rfl (fun h1 => ?_) (fun h1 => ?_)
  · have g0 : k ≠ 0 := fun q => h1 (by rw [q]; rfl)
    refine Ew.iload_n hx dX12_spelled_8 rfl ?_
    refine Ew.iconst hx dX12_spelled_9 k_iconst_1 ?_
    refine Ew.icmp_ne hx (tgt := 17) dX12_spelled_10 rfl (fun h10 => ?_) (fun h10 => ?_)
    · have g1 : k ≠ 1 := fun q => h10 (by rw [q]; rfl)
      refine Ew.iload_n hx dX12_spelled_17 rfl ?_
      refine Ew.iconst hx dX12_spelled_18 k_iconst_2 ?_
      refine Ew.icmp_ne hx (tgt := 26) dX12_spelled_19 rfl (fun h19 => ?_) (fun h19 => ?_)
      · have g2 : k ≠ 2 := fun q => h19 (by rw [q]; rfl)
        refine Ew.iload_n hx dX12_spelled_26 rfl ?_
        refine Ew.iconst hx dX12_spelled_27 k_iconst_3 ?_
        refine Ew.icmp_ne hx (tgt := 36) dX12_spelled_28 rfl (fun h28 => ?_) (fun h28 => ?_)
        · have g3 : k ≠ 3 := fun q => h28 (by rw [q]; rfl)
          refine Ew.iload_n hx dX12_spelled_36 rfl ?_
          refine Ew.iconst hx dX12_spelled_37 k_iconst_4 ?_
          refine Ew.icmp_ne hx (tgt := 46) dX12_spelled_38 rfl (fun h38 => ?_) (fun h38 => ?_)
          · have g4 : k ≠ 4 := fun q => h38 (by rw [q]; rfl)
            refine Ew.iload_n hx dX12_spelled_46 rfl ?_
            refine Ew.iconst hx dX12_spelled_47 k_iconst_5 ?_
            refine Ew.icmp_ne hx (tgt := 56) dX12_spelled_48 rfl (fun h48 => ?_) (fun h48 => ?_)
            · have g5 : k ≠ 5 := fun q => h48 (by rw [q]; rfl)
              refine Ew.iconst hx dX12_spelled_56 k_iconst_0 ?_
              refine Ew.iret hx hq dX12_spelled_57 rfl ?_
              refine ⟨congrArg (fun z => some (Value.int z)) ?_, rfl⟩
              first
                | rfl
                | (obtain ⟨m, rfl⟩ : ∃ m, k = m + 6 := ⟨k - 6, by omega⟩
                   rfl)
            · obtain rfl : k = 5 := (nI_eq (a := k) (b := 5) (by omega) (by omega)).mp h48
              refine Ew.iload hx dX12_spelled_51 rfl ?_
              refine Ew.goto hx (tgt := 57) dX12_spelled_53 rfl ?_
              refine Ew.iret hx hq dX12_spelled_57 rfl ?_
              refine ⟨congrArg (fun z => some (Value.int z)) ?_, rfl⟩
              first
                | rfl
                | (obtain ⟨m, rfl⟩ : ∃ m, k = m + 6 := ⟨k - 6, by omega⟩
                   rfl)
          · obtain rfl : k = 4 := (nI_eq (a := k) (b := 4) (by omega) (by omega)).mp h38
            refine Ew.iload hx dX12_spelled_41 rfl ?_
            refine Ew.goto hx (tgt := 57) dX12_spelled_43 rfl ?_
            refine Ew.iret hx hq dX12_spelled_57 rfl ?_
            refine ⟨congrArg (fun z => some (Value.int z)) ?_, rfl⟩
            first
              | rfl
              | (obtain ⟨m, rfl⟩ : ∃ m, k = m + 6 := ⟨k - 6, by omega⟩
                 rfl)
        · obtain rfl : k = 3 := (nI_eq (a := k) (b := 3) (by omega) (by omega)).mp h28
          refine Ew.iload hx dX12_spelled_31 rfl ?_
          refine Ew.goto hx (tgt := 57) dX12_spelled_33 rfl ?_
          refine Ew.iret hx hq dX12_spelled_57 rfl ?_
          refine ⟨congrArg (fun z => some (Value.int z)) ?_, rfl⟩
          first
            | rfl
            | (obtain ⟨m, rfl⟩ : ∃ m, k = m + 6 := ⟨k - 6, by omega⟩
               rfl)
      · obtain rfl : k = 2 := (nI_eq (a := k) (b := 2) (by omega) (by omega)).mp h19
        refine Ew.iload_n hx dX12_spelled_22 rfl ?_
        refine Ew.goto hx (tgt := 57) dX12_spelled_23 rfl ?_
        refine Ew.iret hx hq dX12_spelled_57 rfl ?_
        refine ⟨congrArg (fun z => some (Value.int z)) ?_, rfl⟩
        first
          | rfl
          | (obtain ⟨m, rfl⟩ : ∃ m, k = m + 6 := ⟨k - 6, by omega⟩
             rfl)
    · obtain rfl : k = 1 := (nI_eq (a := k) (b := 1) (by omega) (by omega)).mp h10
      refine Ew.iload_n hx dX12_spelled_13 rfl ?_
      refine Ew.goto hx (tgt := 57) dX12_spelled_14 rfl ?_
      refine Ew.iret hx hq dX12_spelled_57 rfl ?_
      refine ⟨congrArg (fun z => some (Value.int z)) ?_, rfl⟩
      first
        | rfl
        | (obtain ⟨m, rfl⟩ : ∃ m, k = m + 6 := ⟨k - 6, by omega⟩
           rfl)
  · obtain rfl : k = 0 := (nI_eq (a := k) (b := 0) (by omega) (by omega)).mp h1
    refine Ew.iload_n hx dX12_spelled_4 rfl ?_
    refine Ew.goto hx (tgt := 57) dX12_spelled_5 rfl ?_
    refine Ew.iret hx hq dX12_spelled_57 rfl ?_
    refine ⟨congrArg (fun z => some (Value.int z)) ?_, rfl⟩
    first
      | rfl
      | (obtain ⟨m, rfl⟩ : ∃ m, k = m + 6 := ⟨k - 6, by omega⟩
         rfl)
theorem gd_3 (a b c : Int32) : ∀ k, [a, b, c, 0, 0, 0].getD k 0 = [a, b, c].getD k 0
  | 0 => rfl
  | 1 => rfl
  | 2 => rfl
  | 3 => rfl
  | 4 => rfl
  | 5 => rfl
  | _ + 6 => rfl
theorem gd_4 (a b c d : Int32) : ∀ k, [a, b, c, d, 0, 0].getD k 0 = [a, b, c, d].getD k 0
  | 0 => rfl
  | 1 => rfl
  | 2 => rfl
  | 3 => rfl
  | 4 => rfl
  | 5 => rfl
  | _ + 6 => rfl
set_option maxHeartbeats 4000000 in
set_option maxRecDepth 100000 in
theorem ct_X12_letterOf (G : GT) (V : Mm) {w k : Nat} (hw : w < 7) (hk : k < 2 ^ 31) : Ct G mX12_letterOf 1 [.int (nI w), .int (nI k)] (V) (Ri (lB (w + 2) k) V) := by
  refine Ct.of cf_X12_letterOf (List.forall_mem_cons.mpr ⟨rfl, List.forall_mem_cons.mpr ⟨rfl, fun _ h => absurd h List.not_mem_nil⟩⟩) (Nat.le_of_ble_eq_true rfl) (l0 := [some (.int (nI w)), some (.int (nI k))]) rfl (fun C hx hq => ?_)
  refine Ew.iload_n hx dX12_letterOf_0 rfl ?_
  rcases sp7 hw with rfl | rfl | rfl | rfl | rfl | rfl | rfl
  · refine Ew.tswIn hx dX12_letterOf_1 (by decide) (i := 0) (tgt := 40) rfl rfl ?_
    refine Ew.iload_n hx dX12_letterOf_40 rfl ?_
    refine Ew.bipush hx dX12_letterOf_41 k_bipush_114 ?_
    refine Ew.bipush hx dX12_letterOf_43 k_bipush_97 ?_
    refine Ew.bipush hx dX12_letterOf_45 k_bipush_109 ?_
    refine Ew.bipush hx dX12_letterOf_47 k_bipush_112 ?_
    refine Ew.iconst hx dX12_letterOf_49 k_iconst_0 ?_
    refine Ew.iconst hx dX12_letterOf_50 k_iconst_0 ?_
    refine Ew.callS (y' := mX12_spelled) hx dX12_letterOf_51 ml_RX12_180 cf_X12_spelled cs_X12_spelled (ct_X12_spelled G V hk _ _ _ _ _ _) rfl (by decide) (by decide) rfl (Nat.le_of_ble_eq_true rfl) ?_
    rintro _ V9 ⟨rfl, h9⟩; subst V9
    refine Ew.iret hx hq dX12_letterOf_54 rfl ?_
    refine ⟨congrArg (fun z => some (Value.int z)) ?_, rfl⟩
    exact gd_4 _ _ _ _ k
  · refine Ew.tswIn hx dX12_letterOf_1 (by decide) (i := 1) (tgt := 55) rfl rfl ?_
    refine Ew.iload_n hx dX12_letterOf_55 rfl ?_
    refine Ew.bipush hx dX12_letterOf_56 k_bipush_114 ?_
    refine Ew.bipush hx dX12_letterOf_58 k_bipush_97 ?_
    refine Ew.bipush hx dX12_letterOf_60 k_bipush_116 ?_
    refine Ew.bipush hx dX12_letterOf_62 k_bipush_101 ?_
    refine Ew.iconst hx dX12_letterOf_64 k_iconst_0 ?_
    refine Ew.iconst hx dX12_letterOf_65 k_iconst_0 ?_
    refine Ew.callS (y' := mX12_spelled) hx dX12_letterOf_66 ml_RX12_180 cf_X12_spelled cs_X12_spelled (ct_X12_spelled G V hk _ _ _ _ _ _) rfl (by decide) (by decide) rfl (Nat.le_of_ble_eq_true rfl) ?_
    rintro _ V9 ⟨rfl, h9⟩; subst V9
    refine Ew.iret hx hq dX12_letterOf_69 rfl ?_
    refine ⟨congrArg (fun z => some (Value.int z)) ?_, rfl⟩
    exact gd_4 _ _ _ _ k
  · refine Ew.tswIn hx dX12_letterOf_1 (by decide) (i := 2) (tgt := 70) rfl rfl ?_
    refine Ew.iload_n hx dX12_letterOf_70 rfl ?_
    refine Ew.bipush hx dX12_letterOf_71 k_bipush_98 ?_
    refine Ew.bipush hx dX12_letterOf_73 k_bipush_117 ?_
    refine Ew.bipush hx dX12_letterOf_75 k_bipush_121 ?_
    refine Ew.iconst hx dX12_letterOf_77 k_iconst_0 ?_
    refine Ew.iconst hx dX12_letterOf_78 k_iconst_0 ?_
    refine Ew.iconst hx dX12_letterOf_79 k_iconst_0 ?_
    refine Ew.callS (y' := mX12_spelled) hx dX12_letterOf_80 ml_RX12_180 cf_X12_spelled cs_X12_spelled (ct_X12_spelled G V hk _ _ _ _ _ _) rfl (by decide) (by decide) rfl (Nat.le_of_ble_eq_true rfl) ?_
    rintro _ V9 ⟨rfl, h9⟩; subst V9
    refine Ew.iret hx hq dX12_letterOf_83 rfl ?_
    refine ⟨congrArg (fun z => some (Value.int z)) ?_, rfl⟩
    exact gd_3 _ _ _ k
  · refine Ew.tswIn hx dX12_letterOf_1 (by decide) (i := 3) (tgt := 84) rfl rfl ?_
    refine Ew.iload_n hx dX12_letterOf_84 rfl ?_
    refine Ew.bipush hx dX12_letterOf_85 k_bipush_109 ?_
    refine Ew.bipush hx dX12_letterOf_87 k_bipush_111 ?_
    refine Ew.bipush hx dX12_letterOf_89 k_bipush_118 ?_
    refine Ew.bipush hx dX12_letterOf_91 k_bipush_101 ?_
    refine Ew.iconst hx dX12_letterOf_93 k_iconst_0 ?_
    refine Ew.iconst hx dX12_letterOf_94 k_iconst_0 ?_
    refine Ew.callS (y' := mX12_spelled) hx dX12_letterOf_95 ml_RX12_180 cf_X12_spelled cs_X12_spelled (ct_X12_spelled G V hk _ _ _ _ _ _) rfl (by decide) (by decide) rfl (Nat.le_of_ble_eq_true rfl) ?_
    rintro _ V9 ⟨rfl, h9⟩; subst V9
    refine Ew.iret hx hq dX12_letterOf_98 rfl ?_
    refine ⟨congrArg (fun z => some (Value.int z)) ?_, rfl⟩
    exact gd_4 _ _ _ _ k
  · refine Ew.tswIn hx dX12_letterOf_1 (by decide) (i := 4) (tgt := 99) rfl rfl ?_
    refine Ew.iload_n hx dX12_letterOf_99 rfl ?_
    refine Ew.bipush hx dX12_letterOf_100 k_bipush_99 ?_
    refine Ew.bipush hx dX12_letterOf_102 k_bipush_97 ?_
    refine Ew.bipush hx dX12_letterOf_104 k_bipush_110 ?_
    refine Ew.bipush hx dX12_letterOf_106 k_bipush_99 ?_
    refine Ew.bipush hx dX12_letterOf_108 k_bipush_101 ?_
    refine Ew.bipush hx dX12_letterOf_110 k_bipush_108 ?_
    refine Ew.callS (y' := mX12_spelled) hx dX12_letterOf_112 ml_RX12_180 cf_X12_spelled cs_X12_spelled (ct_X12_spelled G V hk _ _ _ _ _ _) rfl (by decide) (by decide) rfl (Nat.le_of_ble_eq_true rfl) ?_
    rintro _ V9 ⟨rfl, h9⟩; subst V9
    refine Ew.iret hx hq dX12_letterOf_115 rfl ?_
    refine ⟨congrArg (fun z => some (Value.int z)) ?_, rfl⟩
    rfl
  · refine Ew.tswIn hx dX12_letterOf_1 (by decide) (i := 5) (tgt := 116) rfl rfl ?_
    refine Ew.iload_n hx dX12_letterOf_116 rfl ?_
    refine Ew.bipush hx dX12_letterOf_117 k_bipush_114 ?_
    refine Ew.bipush hx dX12_letterOf_119 k_bipush_101 ?_
    refine Ew.bipush hx dX12_letterOf_121 k_bipush_102 ?_
    refine Ew.bipush hx dX12_letterOf_123 k_bipush_117 ?_
    refine Ew.bipush hx dX12_letterOf_125 k_bipush_110 ?_
    refine Ew.bipush hx dX12_letterOf_127 k_bipush_100 ?_
    refine Ew.callS (y' := mX12_spelled) hx dX12_letterOf_129 ml_RX12_180 cf_X12_spelled cs_X12_spelled (ct_X12_spelled G V hk _ _ _ _ _ _) rfl (by decide) (by decide) rfl (Nat.le_of_ble_eq_true rfl) ?_
    rintro _ V9 ⟨rfl, h9⟩; subst V9
    refine Ew.iret hx hq dX12_letterOf_132 rfl ?_
    refine ⟨congrArg (fun z => some (Value.int z)) ?_, rfl⟩
    rfl
  · refine Ew.tswOut hx dX12_letterOf_1 (by decide) (tgt := 133) rfl ?_
    refine Ew.iload_n hx dX12_letterOf_133 rfl ?_
    refine Ew.bipush hx dX12_letterOf_134 k_bipush_112 ?_
    refine Ew.bipush hx dX12_letterOf_136 k_bipush_97 ?_
    refine Ew.bipush hx dX12_letterOf_138 k_bipush_115 ?_
    refine Ew.bipush hx dX12_letterOf_140 k_bipush_115 ?_
    refine Ew.iconst hx dX12_letterOf_142 k_iconst_0 ?_
    refine Ew.iconst hx dX12_letterOf_143 k_iconst_0 ?_
    refine Ew.callS (y' := mX12_spelled) hx dX12_letterOf_144 ml_RX12_180 cf_X12_spelled cs_X12_spelled (ct_X12_spelled G V hk _ _ _ _ _ _) rfl (by decide) (by decide) rfl (Nat.le_of_ble_eq_true rfl) ?_
    rintro _ V9 ⟨rfl, h9⟩; subst V9
    refine Ew.iret hx hq dX12_letterOf_147 rfl ?_
    refine ⟨congrArg (fun z => some (Value.int z)) ?_, rfl⟩
    exact gd_4 _ _ _ _ k
def isWd (tx : Tx) (a b w : Nat) : Prop := ∀ k, k ≤ b - a → lB (w + 2) k = if k < b - a then tx (a + k) else 0
theorem isWd_i {tx : Tx} {a b w : Nat} (hab : a ≤ b) (hw : w < 7) (hk : ∀ j, a ≤ j → j < b → kC (tx j) = 1) : isWd tx a b w ↔ isTk tx a b (w + 2) := by
  have hz : lB (w + 2) (txN.getD (w + 2) 0) = 0 := (show ∀ w, w < 7 → lB (w + 2) (txN.getD (w + 2) 0) = 0 by decide) w hw
  have hn : ∀ j, j < txN.getD (w + 2) 0 → lB (w + 2) j ≠ 0 := (show ∀ w, w < 7 → ∀ j, j < txN.getD (w + 2) 0 → lB (w + 2) j ≠ 0 by decide) w hw
  refine ⟨fun h => ?_, fun h k hk2 => ?_⟩
  · have e : b - a = txN.getD (w + 2) 0 := by
      rcases Nat.lt_trichotomy (b - a) (txN.getD (w + 2) 0) with q | q | q
      · have h1 := h (b - a) (Nat.le_refl _)
        rw [if_neg (by omega)] at h1
        exact absurd h1 (hn _ q)
      · exact q
      · have h1 := h _ (Nat.le_of_lt q)
        rw [if_pos q, hz] at h1
        have h2 := hk (a + txN.getD (w + 2) 0) (by omega) (by omega)
        rw [← h1] at h2
        exact absurd h2 (by decide)
    refine ⟨by omega, fun j hj => ?_⟩
    have h1 := h j (by omega)
    rw [if_pos (by omega)] at h1
    exact h1.symm
  · obtain ⟨h1, h2⟩ := h
    by_cases q : k < b - a
    · rw [if_pos q]
      exact (h2 k (by omega)).symm
    · rw [if_neg q, show k = txN.getD (w + 2) 0 by omega]
      exact hz
theorem rnk_all {tx : Tx} {ln k : Nat} : ∀ n e, e + n = ln → ∀ j, e ≤ j → j < rnk tx ln k n e → kC (tx j) = k
  | 0, e, _, j, h1, h2 => absurd h2 (by show ¬ j < e; omega)
  | n + 1, e, he, j, h1, h2 => by
    by_cases q : e < ln ∧ kC (tx e) = k
    · rw [show rnk tx ln k (n + 1) e = rnk tx ln k n (e + 1) from if_pos q] at h2
      by_cases q2 : j = e
      · rw [q2]; exact q.2
      · exact rnk_all n (e + 1) (by omega) j (by omega) h2
    · rw [show rnk tx ln k (n + 1) e = e from if_neg q] at h2
      omega
theorem tok_all {tx : Tx} {ln a k : Nat} (h : a < ln) (hk : kC (tx a) = k) (h3 : k ≠ 3) : ∀ j, a ≤ j → j < tE tx ln a → kC (tx j) = k := fun j h1 h2 => by
  rw [← tE_rn h hk h3] at h2
  exact rnk_all (ln - a) a (by omega) j h1 h2
noncomputable def wF (tx : Tx) (a b : Nat) : Nat → Nat → Nat
  | 0, i => i
  | n + 1, i => cif (isWd tx a b i) i (wF tx a b n (i + 1))
theorem wF_c {tx : Tx} {a b : Nat} (hab : a ≤ b) (hk : ∀ j, a ≤ j → j < b → kC (tx j) = 1) : ∀ n i, i + n = 7 → wF tx a b n i = cmF tx a b n i
  | 0, i, _ => rfl
  | n + 1, i, hi => by
    have e := isWd_i hab (w := i) (by omega) hk
    by_cases q : isWd tx a b i
    · rw [show wF tx a b (n + 1) i = i from cif_t q, show cmF tx a b (n + 1) i = i from cif_t (e.mp q)]
    · rw [show wF tx a b (n + 1) i = wF tx a b n (i + 1) from cif_f q, show cmF tx a b (n + 1) i = cmF tx a b n (i + 1) from cif_f (fun z => q (e.mpr z))]
      exact wF_c hab hk n (i + 1) (by omega)
theorem cmF_7 {tx : Tx} {a b : Nat} (hk : ¬ kC (tx a) = 1) : ∀ n i, i + n = 7 → cmF tx a b n i = 7
  | 0, i, h => h
  | n + 1, i, h => by
    have q : ¬ isTk tx a b (i + 2) := fun q => by
      have e := q.2 0 ((show ∀ i, i < 7 → 0 < txN.getD (i + 2) 0 by decide) i (by omega))
      rw [Nat.add_zero] at e
      rw [e] at hk
      exact hk ((show ∀ i, i < 7 → kC (lB (i + 2) 0) = 1 by decide) i (by omega))
    rw [show cmF tx a b (n + 1) i = cmF tx a b n (i + 1) from cif_f q]
    exact cmF_7 hk n (i + 1) (by omega)
theorem word_ok {tx : Tx} {ln a : Nat} (h : a < ln) : (tkK tx ln a = 1 → wF tx a (tE tx ln a) 7 0 = cmI tx a (tE tx ln a)) ∧ (¬ tkK tx ln a = 1 → cmI tx a (tE tx ln a) = 7) := by
  have hab := (tE_le (tx := tx) (Nat.le_of_lt h)).1
  rw [show tkK tx ln a = kC (tx a) from if_pos h]
  exact ⟨fun q => wF_c hab (tok_all h q (by decide)) 7 0 rfl, fun q => cmF_7 q 7 0 rfl⟩
theorem sg_ok {w k : Nat} (hw : w < 7) (hk : k < nmN w) : nI k = sgV.getD w 0 ↔ ((w = 1 ∧ k = 1) ∨ w = 6) := (show ∀ w, w < 7 → ∀ k, k < 4 → k < nmN w → (nI k = sgV.getD w 0 ↔ ((w = 1 ∧ k = 1) ∨ w = 6)) by decide +kernel) w hw k (by have := (nmN_v hw).2; omega) hk
set_option maxHeartbeats 4000000 in
set_option maxRecDepth 100000 in
theorem iw_0 {G : GT} {C : CT} {V : Mm} {tx : Tx} {ln a b w : Nat} (hT : MT2 V tx ln) (e12 : V 532 12 = nI a) (e13 : V 532 13 = nI b) (hab : a ≤ b) (hbl : b ≤ ln) (hw : w < 7) (hn : ¬ isWd tx a b w) (hx : Cx G mX12_isWord 2 C) (hq : Cq G (Ri (b2i (isWd tx a b w)) V) C) (i : Nat) : Ew G C V 4 [some (adr G 532), some (.int (nI w)), some (.int 0), some (.int (nI i))] [] := by
  refine Ew.iload_n hx dX12_isWord_4 rfl ?_
  refine Ew.aload_n hx dX12_isWord_5 rfl ?_
  refine Ew.getI hx dX12_isWord_6 fg_RX12_158 rfl ?_
  refine Ew.aload_n hx dX12_isWord_9 rfl ?_
  refine Ew.getI hx dX12_isWord_10 fg_RX12_161 rfl ?_
  refine Ew.isub hx dX12_isWord_13 ?_
  rw [e13, e12, nI_sb hab]
  refine Ew.icmp_gt hx (tgt := 68) dX12_isWord_14 rfl (fun h14 => ?_) (fun h14 => ?_)
  · refine Ew.iload_n hx dX12_isWord_68 rfl ?_
    refine Ew.bret hx hq dX12_isWord_69 rfl (Or.inl rfl) ?_
    refine ⟨congrArg (fun z => some (Value.int z)) ?_, rfl⟩
    exact (b2i_f hn).symm
  · refine Ew.iload_n hx dX12_isWord_17 rfl ?_
    refine Ew.if_eq_t hx (tgt := 68) dX12_isWord_18 rfl (rfl) ?_
    refine Ew.iload_n hx dX12_isWord_68 rfl ?_
    refine Ew.bret hx hq dX12_isWord_69 rfl (Or.inl rfl) ?_
    refine ⟨congrArg (fun z => some (Value.int z)) ?_, rfl⟩
    exact (b2i_f hn).symm
set_option maxHeartbeats 4000000 in
set_option maxRecDepth 100000 in
theorem lp_X12_isw {G : GT} {C : CT} {V : Mm} {tx : Tx} {ln a b w : Nat} (hT : MT2 V tx ln) (e12 : V 532 12 = nI a) (e13 : V 532 13 = nI b) (hab : a ≤ b) (hbl : b ≤ ln) (hw : w < 7) (hx : Cx G mX12_isWord 2 C) (hq : Cq G (Ri (b2i (isWd tx a b w)) V) C) : ∀ (n i : Nat), i + n = b - a + 1 → (∀ j, j < i → lB (w + 2) j = if j < b - a then tx (a + j) else 0) → Ew G C (V) 4 [some (adr G 532), some (.int (nI w)), some (.int 1), some (.int (nI i))] [] := by
  intro n
  induction n with
  | zero =>
    intro i hi hs
    have hl := hT.2.1
    refine Ew.iload_n hx dX12_isWord_4 rfl ?_
    refine Ew.aload_n hx dX12_isWord_5 rfl ?_
    refine Ew.getI hx dX12_isWord_6 fg_RX12_158 rfl ?_
    refine Ew.aload_n hx dX12_isWord_9 rfl ?_
    refine Ew.getI hx dX12_isWord_10 fg_RX12_161 rfl ?_
    refine Ew.isub hx dX12_isWord_13 ?_
    rw [e13, e12, nI_sb hab]
    refine Ew.icmp_gt_t hx (tgt := 68) dX12_isWord_14 rfl (nI_lt (by omega) (by omega)) ?_
    refine Ew.iload_n hx dX12_isWord_68 rfl ?_
    refine Ew.bret hx hq dX12_isWord_69 rfl (Or.inr rfl) ?_
    refine ⟨congrArg (fun z => some (Value.int z)) ?_, rfl⟩
    exact (b2i_t (fun j hj => hs j (by omega))).symm
  | succ n ih =>
    intro i hi hs
    have hl := hT.2.1
    refine Ew.iload_n hx dX12_isWord_4 rfl ?_
    refine Ew.aload_n hx dX12_isWord_5 rfl ?_
    refine Ew.getI hx dX12_isWord_6 fg_RX12_158 rfl ?_
    refine Ew.aload_n hx dX12_isWord_9 rfl ?_
    refine Ew.getI hx dX12_isWord_10 fg_RX12_161 rfl ?_
    refine Ew.isub hx dX12_isWord_13 ?_
    rw [e13, e12, nI_sb hab]
    refine Ew.icmp_gt_f hx (tgt := 68) dX12_isWord_14 rfl (nI_nlt (by omega) (by omega)) ?_
    refine Ew.iload_n hx dX12_isWord_17 rfl ?_
    refine Ew.if_eq_f hx (tgt := 68) dX12_isWord_18 rfl (by decide) ?_
    refine Ew.iload_n hx dX12_isWord_21 rfl ?_
    refine Ew.iload_n hx dX12_isWord_22 rfl ?_
    refine Ew.callS (y' := mX12_letterOf) hx dX12_isWord_23 ml_RX12_184 cf_X12_letterOf cs_X12_letterOf (ct_X12_letterOf G V hw (k := i) (by omega)) rfl (by decide) (by decide) rfl (Nat.le_of_ble_eq_true rfl) ?_
    rintro _ V9 ⟨rfl, h9⟩; subst V9
    refine Ew.iload_n hx dX12_isWord_26 rfl ?_
    refine Ew.aload_n hx dX12_isWord_27 rfl ?_
    refine Ew.getI hx dX12_isWord_28 fg_RX12_158 rfl ?_
    refine Ew.aload_n hx dX12_isWord_31 rfl ?_
    refine Ew.getI hx dX12_isWord_32 fg_RX12_161 rfl ?_
    refine Ew.isub hx dX12_isWord_35 ?_
    rw [e13, e12, nI_sb hab]
    refine Ew.icmp_ge hx (tgt := 52) dX12_isWord_36 rfl (fun h36 => ?_) (fun h36 => ?_)
    · have hv : (if i < b - a then tx (a + i) else 0) = (0 : Int32) := if_neg (by rw [ie, tn (by omega), tn (by omega)] at h36; omega)
      refine Ew.iconst hx dX12_isWord_52 k_iconst_0 ?_
      refine Ew.icmp_ne hx (tgt := 60) dX12_isWord_53 rfl (fun h53 => ?_) (fun h53 => ?_)
      · have hn : ¬ isWd tx a b w := fun q => h53 ((q i (by omega)).trans hv)
        refine Ew.iconst hx dX12_isWord_60 k_iconst_0 ?_
        refine Ew.istore_n hx dX12_isWord_61 (by decide) rfl ?_
        refine Ew.iinc hx dX12_isWord_62 rfl (k_iinc_1 _) (by decide) rfl ?_
        refine Ew.goto hx (tgt := 4) dX12_isWord_65 rfl ?_
        have hl := hT.2.1
        rw [nI_1]
        first
          | exact iw_0 hT e12 e13 hab hbl hw hn hx hq (i + 1)
          | exact ih (i + 1) (by omega) (fun j hj => by
              rcases Nat.lt_or_ge j i with q2 | q2
              · exact hs j q2
              · rw [show j = i by omega]; exact hk)
      · have hk : lB (w + 2) i = if i < b - a then tx (a + i) else 0 := h53.trans hv.symm
        refine Ew.iconst hx dX12_isWord_56 k_iconst_1 ?_
        refine Ew.goto hx (tgt := 61) dX12_isWord_57 rfl ?_
        refine Ew.istore_n hx dX12_isWord_61 (by decide) rfl ?_
        refine Ew.iinc hx dX12_isWord_62 rfl (k_iinc_1 _) (by decide) rfl ?_
        refine Ew.goto hx (tgt := 4) dX12_isWord_65 rfl ?_
        have hl := hT.2.1
        rw [nI_1]
        first
          | exact iw_0 hT e12 e13 hab hbl hw hn hx hq (i + 1)
          | exact ih (i + 1) (by omega) (fun j hj => by
              rcases Nat.lt_or_ge j i with q2 | q2
              · exact hs j q2
              · rw [show j = i by omega]; exact hk)
    · have hib : i < b - a := by rw [ie, tn (by omega), tn (by omega)] at h36; omega
      have hv : (if i < b - a then tx (a + i) else 0) = tx (a + i) := if_pos hib
      refine Ew.aload_n hx dX12_isWord_39 rfl ?_
      refine Ew.aload_n hx dX12_isWord_40 rfl ?_
      refine Ew.getI hx dX12_isWord_41 fg_RX12_161 rfl ?_
      refine Ew.iload_n hx dX12_isWord_44 rfl ?_
      refine Ew.iadd hx dX12_isWord_45 ?_
      rw [e12, nI_add]
      refine Ew.callV2 (y' := mX12_at) hx dX12_isWord_46 ml_RX12_164 cf_X12_at cv_X12_at (ct_X12_at G V hT (i := a + i) (by omega)) rfl oc_19 rfl (by decide) (by decide) rfl (Nat.le_of_ble_eq_true rfl) ?_
      rintro _ V9 ⟨rfl, h9⟩; subst V9
      rw [show atI tx ln (a + i) = tx (a + i) from if_pos (by omega)]
      refine Ew.goto hx (tgt := 53) dX12_isWord_49 rfl ?_
      refine Ew.icmp_ne hx (tgt := 60) dX12_isWord_53 rfl (fun h53 => ?_) (fun h53 => ?_)
      · have hn : ¬ isWd tx a b w := fun q => h53 ((q i (by omega)).trans hv)
        refine Ew.iconst hx dX12_isWord_60 k_iconst_0 ?_
        refine Ew.istore_n hx dX12_isWord_61 (by decide) rfl ?_
        refine Ew.iinc hx dX12_isWord_62 rfl (k_iinc_1 _) (by decide) rfl ?_
        refine Ew.goto hx (tgt := 4) dX12_isWord_65 rfl ?_
        have hl := hT.2.1
        rw [nI_1]
        first
          | exact iw_0 hT e12 e13 hab hbl hw hn hx hq (i + 1)
          | exact ih (i + 1) (by omega) (fun j hj => by
              rcases Nat.lt_or_ge j i with q2 | q2
              · exact hs j q2
              · rw [show j = i by omega]; exact hk)
      · have hk : lB (w + 2) i = if i < b - a then tx (a + i) else 0 := h53.trans hv.symm
        refine Ew.iconst hx dX12_isWord_56 k_iconst_1 ?_
        refine Ew.goto hx (tgt := 61) dX12_isWord_57 rfl ?_
        refine Ew.istore_n hx dX12_isWord_61 (by decide) rfl ?_
        refine Ew.iinc hx dX12_isWord_62 rfl (k_iinc_1 _) (by decide) rfl ?_
        refine Ew.goto hx (tgt := 4) dX12_isWord_65 rfl ?_
        have hl := hT.2.1
        rw [nI_1]
        first
          | exact iw_0 hT e12 e13 hab hbl hw hn hx hq (i + 1)
          | exact ih (i + 1) (by omega) (fun j hj => by
              rcases Nat.lt_or_ge j i with q2 | q2
              · exact hs j q2
              · rw [show j = i by omega]; exact hk)
set_option maxHeartbeats 4000000 in
set_option maxRecDepth 100000 in
theorem ct_X12_isWord (G : GT) (V : Mm) {tx : Tx} {ln a : Nat} (hK : TK V tx ln a) {w : Nat} (hw : w < 7) : Ct G mX12_isWord 2 [adr G 532, .int (nI w)] (V) (Ri (b2i (isWd tx a (tE tx ln a) w)) V) := by
  refine Ct.of cf_X12_isWord (List.forall_mem_cons.mpr ⟨rfl, List.forall_mem_cons.mpr ⟨rfl, fun _ h => absurd h List.not_mem_nil⟩⟩) (Nat.le_of_ble_eq_true rfl) (l0 := [some (adr G 532), some (.int (nI w)), none, none]) rfl (fun C hx hq => ?_)
  obtain ⟨hT, hal, e11, e12, e13⟩ := hK
  have hl := hT.2.1
  obtain ⟨hab, hbl, hab2⟩ := tE_le (tx := tx) hal
  generalize tE tx ln a = b at *
  refine Ew.iconst hx dX12_isWord_0 k_iconst_1 ?_
  refine Ew.istore_n hx dX12_isWord_1 (by decide) rfl ?_
  refine Ew.iconst hx dX12_isWord_2 k_iconst_0 ?_
  refine Ew.istore_n hx dX12_isWord_3 (by decide) rfl ?_
  exact lp_X12_isw hT e12 e13 hab hbl hw hx hq (b - a + 1) 0 (by omega) (fun j hj => absurd hj (Nat.not_lt_zero j))
set_option maxHeartbeats 4000000 in
set_option maxRecDepth 100000 in
theorem lp_X12_wh {G : GT} {C : CT} {V : Mm} {tx : Tx} {ln a : Nat} (hK : TK V tx ln a) {r R : Nat} (hA : tkK tx ln a = 1 → r = R) (hB : ¬ tkK tx ln a = 1 → R = 7) (hx : Cx G mX12_wordHere 3 C) (hq : Cq G (Ri (nI R) V) C) : ∀ (n i : Nat), i + n = 7 → wF tx a (tE tx ln a) n i = r → Ew G C (V) 2 [some (adr G 532), some (.int (nI i))] [] := by
  intro n
  induction n with
  | zero =>
    intro i hi hs
    refine Ew.iload_n hx dX12_wordHere_2 rfl ?_
    refine Ew.bipush hx dX12_wordHere_3 k_bipush_7 ?_
    refine Ew.icmp_ge_t hx (tgt := 22) dX12_wordHere_5 rfl (nI_le (a := 7) (b := i) (by omega) (by omega)) ?_
    have hs2 : i = r := hs
    refine Ew.aload_n hx dX12_wordHere_22 rfl ?_
    refine Ew.getI hx dX12_wordHere_23 fg_RX12_167 rfl ?_
    refine Ew.iconst hx dX12_wordHere_26 k_iconst_1 ?_
    have h3 : tkK tx ln a < 4 := by
      unfold tkK
      split
      · have := kC_123 (tx a); omega
      · omega
    rw [hK.2.2.1]
    refine Ew.icmp_ne hx (tgt := 34) dX12_wordHere_27 rfl (fun h27 => ?_) (fun h27 => ?_)
    · have hr := hB (fun q => h27 (by rw [q]; rfl))
      refine Ew.bipush hx dX12_wordHere_34 k_bipush_7 ?_
      refine Ew.iret hx hq dX12_wordHere_36 rfl ?_
      refine ⟨congrArg (fun z => some (Value.int z)) ?_, rfl⟩
      first | (rw [hr]; rfl) | (rw [← hr, ← hs2])
    · have hr := hA ((nI_eq (a := tkK tx ln a) (b := 1) (by omega) (by omega)).mp h27)
      refine Ew.iload_n hx dX12_wordHere_30 rfl ?_
      refine Ew.goto hx (tgt := 36) dX12_wordHere_31 rfl ?_
      refine Ew.iret hx hq dX12_wordHere_36 rfl ?_
      refine ⟨congrArg (fun z => some (Value.int z)) ?_, rfl⟩
      first | (rw [hr]; rfl) | (rw [← hr, ← hs2])
  | succ n ih =>
    intro i hi hs
    refine Ew.iload_n hx dX12_wordHere_2 rfl ?_
    refine Ew.bipush hx dX12_wordHere_3 k_bipush_7 ?_
    refine Ew.icmp_ge_f hx (tgt := 22) dX12_wordHere_5 rfl (nI_ge (a := i) (b := 7) (by omega) (by omega)) ?_
    refine Ew.aload_n hx dX12_wordHere_8 rfl ?_
    refine Ew.iload_n hx dX12_wordHere_9 rfl ?_
    refine Ew.callV2 (y' := mX12_isWord) hx dX12_wordHere_10 ml_RX12_187 cf_X12_isWord cv_X12_isWord (ct_X12_isWord G V hK (w := i) (by omega)) rfl oc_19 rfl (by decide) (by decide) rfl (Nat.le_of_ble_eq_true rfl) ?_
    rintro _ V9 ⟨rfl, h9⟩; subst V9
    refine Ew.ifne_b hx (tgt := 22) dX12_wordHere_13 rfl (fun h13 => ?_) (fun h13 => ?_)
    · have hs2 : i = r := (cif_t h13).symm.trans hs
      refine Ew.aload_n hx dX12_wordHere_22 rfl ?_
      refine Ew.getI hx dX12_wordHere_23 fg_RX12_167 rfl ?_
      refine Ew.iconst hx dX12_wordHere_26 k_iconst_1 ?_
      have h3 : tkK tx ln a < 4 := by
        unfold tkK
        split
        · have := kC_123 (tx a); omega
        · omega
      rw [hK.2.2.1]
      refine Ew.icmp_ne hx (tgt := 34) dX12_wordHere_27 rfl (fun h27 => ?_) (fun h27 => ?_)
      · have hr := hB (fun q => h27 (by rw [q]; rfl))
        refine Ew.bipush hx dX12_wordHere_34 k_bipush_7 ?_
        refine Ew.iret hx hq dX12_wordHere_36 rfl ?_
        refine ⟨congrArg (fun z => some (Value.int z)) ?_, rfl⟩
        first | (rw [hr]; rfl) | (rw [← hr, ← hs2])
      · have hr := hA ((nI_eq (a := tkK tx ln a) (b := 1) (by omega) (by omega)).mp h27)
        refine Ew.iload_n hx dX12_wordHere_30 rfl ?_
        refine Ew.goto hx (tgt := 36) dX12_wordHere_31 rfl ?_
        refine Ew.iret hx hq dX12_wordHere_36 rfl ?_
        refine ⟨congrArg (fun z => some (Value.int z)) ?_, rfl⟩
        first | (rw [hr]; rfl) | (rw [← hr, ← hs2])
    · have hs2 : _ = r := (cif_f h13).symm.trans hs
      refine Ew.iinc hx dX12_wordHere_16 rfl (k_iinc_1 _) (by decide) rfl ?_
      refine Ew.goto hx (tgt := 2) dX12_wordHere_19 rfl ?_
      rw [nI_1]
      exact ih (i + 1) (by omega) hs2
set_option maxHeartbeats 4000000 in
set_option maxRecDepth 100000 in
theorem ct_X12_wordHere (G : GT) (V : Mm) {tx : Tx} {ln a : Nat} (hK : TK V tx ln a) (h : a < ln) : Ct G mX12_wordHere 3 [adr G 532] (V) (Ri (nI (cmI tx a (tE tx ln a))) V) := by
  refine Ct.of cf_X12_wordHere (List.forall_mem_cons.mpr ⟨rfl, fun _ h => absurd h List.not_mem_nil⟩) (Nat.le_of_ble_eq_true rfl) (l0 := [some (adr G 532), none]) rfl (fun C hx hq => ?_)
  refine Ew.iconst hx dX12_wordHere_0 k_iconst_0 ?_
  refine Ew.istore_n hx dX12_wordHere_1 (by decide) rfl ?_
  exact lp_X12_wh hK (word_ok h).1 (word_ok h).2 hx hq 7 0 rfl rfl
set_option maxHeartbeats 4000000 in
set_option maxRecDepth 100000 in
theorem ct_X12_isSigned (G : GT) (V : Mm) {w k : Nat} (hw : w < 7) (hk : k < nmN w) : Ct G mX12_isSigned 0 [.int (nI w), .int (nI k)] (V) (Ri (b2i (nI k = sgV.getD w 0)) V) := by
  refine Ct.of cf_X12_isSigned (List.forall_mem_cons.mpr ⟨rfl, List.forall_mem_cons.mpr ⟨rfl, fun _ h => absurd h List.not_mem_nil⟩⟩) (Nat.le_of_ble_eq_true rfl) (l0 := [some (.int (nI w)), some (.int (nI k))]) rfl (fun C hx hq => ?_)
  have h4 := (nmN_v hw).2
  have hg := sg_ok hw hk
  refine Ew.iload_n hx dX12_isSigned_0 rfl ?_
  refine Ew.iconst hx dX12_isSigned_1 k_iconst_1 ?_
  refine Ew.icmp_ne hx (tgt := 10) dX12_isSigned_2 rfl (fun h2 => ?_) (fun h2 => ?_)
  · have a1 : w ≠ 1 := fun q => h2 (by rw [q]; rfl)
    refine Ew.iload_n hx dX12_isSigned_10 rfl ?_
    refine Ew.bipush hx dX12_isSigned_11 k_bipush_6 ?_
    refine Ew.icmp_ne hx (tgt := 20) dX12_isSigned_13 rfl (fun h13 => ?_) (fun h13 => ?_)
    · have c1 : w ≠ 6 := fun q => h13 (by rw [q]; rfl)
      refine Ew.iconst hx dX12_isSigned_20 k_iconst_0 ?_
      refine Ew.bret hx hq dX12_isSigned_21 rfl (by decide) ?_
      refine ⟨congrArg (fun z => some (Value.int z)) ?_, rfl⟩
      first | exact (b2i_t (hg.mpr (by omega))).symm | exact (b2i_f (fun q => by have q2 := hg.mp q; omega)).symm
    · have c1 : w = 6 := (nI_eq (a := w) (b := 6) (by omega) (by omega)).mp h13
      refine Ew.iconst hx dX12_isSigned_16 k_iconst_1 ?_
      refine Ew.goto hx (tgt := 21) dX12_isSigned_17 rfl ?_
      refine Ew.bret hx hq dX12_isSigned_21 rfl (by decide) ?_
      refine ⟨congrArg (fun z => some (Value.int z)) ?_, rfl⟩
      first | exact (b2i_t (hg.mpr (by omega))).symm | exact (b2i_f (fun q => by have q2 := hg.mp q; omega)).symm
  · have a1 : w = 1 := (nI_eq (a := w) (b := 1) (by omega) (by omega)).mp h2
    refine Ew.iload_n hx dX12_isSigned_5 rfl ?_
    refine Ew.iconst hx dX12_isSigned_6 k_iconst_1 ?_
    refine Ew.icmp_eq hx (tgt := 16) dX12_isSigned_7 rfl (fun h7 => ?_) (fun h7 => ?_)
    · have b1 : k = 1 := (nI_eq (a := k) (b := 1) (by omega) (by omega)).mp h7
      refine Ew.iconst hx dX12_isSigned_16 k_iconst_1 ?_
      refine Ew.goto hx (tgt := 21) dX12_isSigned_17 rfl ?_
      refine Ew.bret hx hq dX12_isSigned_21 rfl (by decide) ?_
      refine ⟨congrArg (fun z => some (Value.int z)) ?_, rfl⟩
      first | exact (b2i_t (hg.mpr (by omega))).symm | exact (b2i_f (fun q => by have q2 := hg.mp q; omega)).symm
    · have b1 : k ≠ 1 := fun q => h7 (by rw [q]; rfl)
      refine Ew.iload_n hx dX12_isSigned_10 rfl ?_
      refine Ew.bipush hx dX12_isSigned_11 k_bipush_6 ?_
      refine Ew.icmp_ne hx (tgt := 20) dX12_isSigned_13 rfl (fun h13 => ?_) (fun h13 => ?_)
      · have c1 : w ≠ 6 := fun q => h13 (by rw [q]; rfl)
        refine Ew.iconst hx dX12_isSigned_20 k_iconst_0 ?_
        refine Ew.bret hx hq dX12_isSigned_21 rfl (by decide) ?_
        refine ⟨congrArg (fun z => some (Value.int z)) ?_, rfl⟩
        first | exact (b2i_t (hg.mpr (by omega))).symm | exact (b2i_f (fun q => by have q2 := hg.mp q; omega)).symm
      · have c1 : w = 6 := (nI_eq (a := w) (b := 6) (by omega) (by omega)).mp h13
        refine Ew.iconst hx dX12_isSigned_16 k_iconst_1 ?_
        refine Ew.goto hx (tgt := 21) dX12_isSigned_17 rfl ?_
        refine Ew.bret hx hq dX12_isSigned_21 rfl (by decide) ?_
        refine ⟨congrArg (fun z => some (Value.int z)) ?_, rfl⟩
        first | exact (b2i_t (hg.mpr (by omega))).symm | exact (b2i_f (fun q => by have q2 := hg.mp q; omega)).symm
def nmP (tx : Tx) (ln a b : Nat) : Prop := kA tx ln a = 2 ∧ b ≤ a + 4 ∧ ¬ (a + 1 < b ∧ tx a = 48)
theorem kA_tk {tx : Tx} {ln a : Nat} : kA tx ln a = 2 ↔ tkK tx ln a = 2 := by
  unfold kA tkK
  by_cases h : a < ln
  · rw [if_pos h, if_pos h]
  · rw [if_neg h, if_neg h]; exact ⟨fun q => absurd q (by decide), fun q => absurd q (by decide)⟩
theorem kA_lt {tx : Tx} {ln a : Nat} (h : kA tx ln a = 2) : a < ln ∧ kC (tx a) = 2 := by
  unfold kA at h
  by_cases q : a < ln
  · rw [if_pos q] at h; exact ⟨q, h⟩
  · rw [if_neg q] at h; exact absurd h (by decide)
theorem nvF_b {tx : Tx} : ∀ (n m i : Nat) (v : Int32), n + m ≤ 8 → (∀ j, i ≤ j → j < i + n → kC (tx j) = 2) → 0 ≤ v.toInt → v.toInt < 10 ^ m → 0 ≤ (nvF tx n i v).toInt
  | 0, _, _, _, _, _, h, _ => h
  | n + 1, m, i, v, hm, hk, h0, h1 => by
    have hd := kC_2.mpr (hk i (by omega) (by omega))
    rw [ie, ie, tl_48, tl_57] at hd
    have hp : (10 : Int) ^ m ≤ 10 ^ 7 := by
      have h7 : m ≤ 7 := by omega
      have := Nat.pow_le_pow_right (n := 10) (by decide) h7
      exact_mod_cast this
    have hp2 : (10 : Int) ^ (m + 1) = 10 ^ m * 10 := Int.pow_succ _ _
    have t10 : (10 : Int32).toInt = 10 := by decide
    have e1 : (v * 10).toInt = v.toInt * 10 := by rw [mulT (by rw [t10]; omega) (by rw [t10]; omega), t10]
    have e2 : (v * 10 + tx i).toInt = v.toInt * 10 + (tx i).toInt := by rw [addT (by rw [e1]; omega) (by rw [e1]; omega), e1]
    have e3 : (v * 10 + tx i - 48).toInt = v.toInt * 10 + (tx i).toInt - 48 := by rw [subT (by rw [e2, tl_48]; omega) (by rw [e2, tl_48]; omega), e2, tl_48]
    exact nvF_b n (m + 1) (i + 1) _ (by omega) (fun j h2 h3 => hk j (by omega) (by omega)) (by rw [e3]; omega) (by rw [e3, hp2]; omega)
theorem num_ok {tx : Tx} {ln a : Nat} (h : nmP tx ln a (tE tx ln a)) : ¬ numI tx ln a (tE tx ln a) = -1 := fun q => by
  have e : numI tx ln a (tE tx ln a) = nvF tx (tE tx ln a - a) a 0 := if_pos h
  obtain ⟨hl, hk⟩ := kA_lt h.1
  have hb := nvF_b (tx := tx) (tE tx ln a - a) 0 a 0 (by have := h.2.1; omega) (fun j h1 h2 => tok_all hl hk (by decide) j h1 (by omega)) (by decide) (by decide)
  rw [← e, q, tl_m1] at hb
  omega
theorem num_no {tx : Tx} {ln a b : Nat} (h : ¬ nmP tx ln a b) : numI tx ln a b = -1 := if_neg h
theorem num_v {tx : Tx} {ln a b : Nat} (h : nmP tx ln a b) : numI tx ln a b = nvF tx (b - a) a 0 := if_pos h
set_option maxHeartbeats 4000000 in
set_option maxRecDepth 100000 in
theorem ct_X12_isNumber (G : GT) (V : Mm) {tx : Tx} {ln a : Nat} (hK : TK V tx ln a) : Ct G mX12_isNumber 1 [adr G 532] (V) (Ri (b2i (nmP tx ln a (tE tx ln a))) V) := by
  refine Ct.of cf_X12_isNumber (List.forall_mem_cons.mpr ⟨rfl, fun _ h => absurd h List.not_mem_nil⟩) (Nat.le_of_ble_eq_true rfl) (l0 := [some (adr G 532)]) rfl (fun C hx hq => ?_)
  have h3 : tkK tx ln a < 4 := by
    unfold tkK
    split
    · have := kC_123 (tx a); omega
    · omega
  obtain ⟨hT, hal, e11, e12, e13⟩ := hK
  have hl := hT.2.1
  obtain ⟨hab, hbl, hab2⟩ := tE_le (tx := tx) hal
  generalize tE tx ln a = b at *
  refine Ew.aload_n hx dX12_isNumber_0 rfl ?_
  refine Ew.getI hx dX12_isNumber_1 fg_RX12_167 rfl ?_
  refine Ew.iconst hx dX12_isNumber_4 k_iconst_2 ?_
  rw [e11]
  refine Ew.icmp_ne hx (tgt := 51) dX12_isNumber_5 rfl (fun h5 => ?_) (fun h5 => ?_)
  · have hn : ¬ nmP tx ln a b := fun q => h5 (by rw [kA_tk.mp q.1]; rfl)
    refine Ew.iconst hx dX12_isNumber_51 k_iconst_0 ?_
    refine Ew.bret hx hq dX12_isNumber_52 rfl (by decide) ?_
    refine ⟨congrArg (fun z => some (Value.int z)) ?_, rfl⟩
    first | exact (b2i_t hy).symm | exact (b2i_f hn).symm
  · have hk2 := kA_tk.mpr ((nI_eq (a := tkK tx ln a) (b := 2) (by omega) (by omega)).mp h5)
    have ha := (kA_lt hk2).1
    refine Ew.aload_n hx dX12_isNumber_8 rfl ?_
    refine Ew.getI hx dX12_isNumber_9 fg_RX12_158 rfl ?_
    refine Ew.aload_n hx dX12_isNumber_12 rfl ?_
    refine Ew.getI hx dX12_isNumber_13 fg_RX12_161 rfl ?_
    refine Ew.isub hx dX12_isNumber_16 ?_
    refine Ew.iconst hx dX12_isNumber_17 k_iconst_5 ?_
    rw [e13, e12, nI_sb hab]
    refine Ew.icmp_ge hx (tgt := 51) dX12_isNumber_18 rfl (fun h18 => ?_) (fun h18 => ?_)
    · have hn : ¬ nmP tx ln a b := fun q => by have q2 := q.2.1; rw [ie, tn (by omega), tl_5] at h18; omega
      refine Ew.iconst hx dX12_isNumber_51 k_iconst_0 ?_
      refine Ew.bret hx hq dX12_isNumber_52 rfl (by decide) ?_
      refine ⟨congrArg (fun z => some (Value.int z)) ?_, rfl⟩
      first | exact (b2i_t hy).symm | exact (b2i_f hn).symm
    · have h5b : b ≤ a + 4 := by rw [ie, tn (by omega), tl_5] at h18; omega
      refine Ew.aload_n hx dX12_isNumber_21 rfl ?_
      refine Ew.getI hx dX12_isNumber_22 fg_RX12_158 rfl ?_
      refine Ew.aload_n hx dX12_isNumber_25 rfl ?_
      refine Ew.getI hx dX12_isNumber_26 fg_RX12_161 rfl ?_
      refine Ew.isub hx dX12_isNumber_29 ?_
      refine Ew.iconst hx dX12_isNumber_30 k_iconst_1 ?_
      rw [e13, e12, nI_sb hab]
      refine Ew.icmp_eq hx (tgt := 47) dX12_isNumber_31 rfl (fun h31 => ?_) (fun h31 => ?_)
      · have hb1 : b - a = 1 := (nI_eq (a := b - a) (b := 1) (by omega) (by omega)).mp h31
        have hy : nmP tx ln a b := ⟨hk2, h5b, fun q => by omega⟩
        refine Ew.iconst hx dX12_isNumber_47 k_iconst_1 ?_
        refine Ew.goto hx (tgt := 52) dX12_isNumber_48 rfl ?_
        refine Ew.bret hx hq dX12_isNumber_52 rfl (by decide) ?_
        refine ⟨congrArg (fun z => some (Value.int z)) ?_, rfl⟩
        first | exact (b2i_t hy).symm | exact (b2i_f hn).symm
      · have hb1 : b - a ≠ 1 := fun q => h31 (by rw [q]; rfl)
        refine Ew.aload_n hx dX12_isNumber_34 rfl ?_
        refine Ew.aload_n hx dX12_isNumber_35 rfl ?_
        refine Ew.getI hx dX12_isNumber_36 fg_RX12_161 rfl ?_
        rw [e12]
        refine Ew.callV2 (y' := mX12_at) hx dX12_isNumber_39 ml_RX12_164 cf_X12_at cv_X12_at (ct_X12_at G V hT (i := a) (by omega)) rfl oc_19 rfl (by decide) (by decide) rfl (Nat.le_of_ble_eq_true rfl) ?_
        rintro _ V9 ⟨rfl, h9⟩; subst V9
        rw [show atI tx ln a = tx a from if_pos ha]
        refine Ew.bipush hx dX12_isNumber_42 k_bipush_48 ?_
        refine Ew.icmp_eq hx (tgt := 51) dX12_isNumber_44 rfl (fun h44 => ?_) (fun h44 => ?_)
        · have hn : ¬ nmP tx ln a b := fun q => q.2.2 ⟨by omega, h44⟩
          refine Ew.iconst hx dX12_isNumber_51 k_iconst_0 ?_
          refine Ew.bret hx hq dX12_isNumber_52 rfl (by decide) ?_
          refine ⟨congrArg (fun z => some (Value.int z)) ?_, rfl⟩
          first | exact (b2i_t hy).symm | exact (b2i_f hn).symm
        · have hy : nmP tx ln a b := ⟨hk2, h5b, fun q => h44 q.2⟩
          refine Ew.iconst hx dX12_isNumber_47 k_iconst_1 ?_
          refine Ew.goto hx (tgt := 52) dX12_isNumber_48 rfl ?_
          refine Ew.bret hx hq dX12_isNumber_52 rfl (by decide) ?_
          refine ⟨congrArg (fun z => some (Value.int z)) ?_, rfl⟩
          first | exact (b2i_t hy).symm | exact (b2i_f hn).symm
