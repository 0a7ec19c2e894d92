/-! the model's tokens: kind in slot 11 (0 at the end), from 12, till 13 -/
def tkK (tx : Tx) (ln a : Nat) : Nat := if a < ln then kC (tx a) else 0
def NXF (V W : Mm) : Prop := (∀ k, k ≠ 532 → W k = V k) ∧ ∀ i, i < 11 ∨ 14 ≤ i → W 532 i = V 532 i
def TK (W : Mm) (tx : Tx) (ln a : Nat) : Prop := MT2 W tx ln ∧ a ≤ ln ∧ W 532 11 = nI (tkK tx ln a) ∧ W 532 12 = nI a ∧ W 532 13 = nI (tE tx ln a)
def NXQ (V : Mm) (tx : Tx) (ln b : Nat) : PT := fun v V9 => v = none ∧ NXF V V9 ∧ TK V9 tx ln (sK tx ln b)
theorem NXF.rf (V : Mm) : NXF V V := ⟨fun _ _ => rfl, fun _ _ => rfl⟩
theorem NXF.m {V W : Mm} (h : NXF V W) {i : Nat} {x : Int32} (hi : 11 ≤ i ∧ i < 14) : NXF V (mup W 532 i x) := ⟨fun k hk => by rw [mup_ne _ _ _ hk]; exact h.1 k hk, fun j hj => by rw [mup_oth _ _ _ _ (Or.inr (by omega))]; exact h.2 j hj⟩
theorem NXF.T {V W : Mm} (h : NXF V W) {tx : Tx} {ln : Nat} (hT : MT2 V tx ln) : MT2 W tx ln := ⟨by rw [h.2 7 (by omega)]; exact hT.1, hT.2.1, fun i hi => by rw [h.1 537 (by decide)]; exact hT.2.2 i hi⟩
theorem NXF.tr {V W U : Mm} (h : NXF V W) (g : NXF W U) : NXF V U := ⟨fun k hk => (g.1 k hk).trans (h.1 k hk), fun i hi => (g.2 i hi).trans (h.2 i hi)⟩
theorem at_end {tx : Tx} {ln a : Nat} (h : ln ≤ a) : atI tx ln a = -1 := if_neg (by omega)
theorem at_sp {tx : Tx} {ln a : Nat} : atI tx ln a = 32 ↔ (a < ln ∧ tx a = 32) := by
  unfold atI
  by_cases h : a < ln
  · rw [if_pos h]; exact ⟨fun q => ⟨h, q⟩, fun q => q.2⟩
  · rw [if_neg h]; exact ⟨fun q => absurd q (by decide), fun q => absurd q.1 h⟩
theorem kC_1 {c : Int32} : (97 ≤ c ∧ c ≤ 122) ↔ kC c = 1 := by
  unfold kC
  by_cases h : 97 ≤ c ∧ c ≤ 122
  · rw [if_pos h]; exact ⟨fun _ => rfl, fun _ => h⟩
  · rw [if_neg h]
    refine ⟨fun q => absurd q h, fun q => ?_⟩
    split at q <;> exact absurd q (by decide)
theorem kC_2 {c : Int32} : (48 ≤ c ∧ c ≤ 57) ↔ kC c = 2 := by
  unfold kC
  by_cases h : 97 ≤ c ∧ c ≤ 122
  · rw [if_pos h]
    refine ⟨fun q => ?_, fun q => absurd q (by decide)⟩
    rw [ie, ie, tl_48, tl_57] at q
    rw [ie, ie, tl_97, tl_122] at h
    omega
  · rw [if_neg h]
    by_cases h2 : 48 ≤ c ∧ c ≤ 57
    · rw [if_pos h2]; exact ⟨fun _ => rfl, fun _ => h2⟩
    · rw [if_neg h2]; exact ⟨fun q => absurd q h2, fun q => absurd q (by decide)⟩
theorem at_1 {tx : Tx} {ln a : Nat} : (97 ≤ atI tx ln a ∧ atI tx ln a ≤ 122) ↔ (a < ln ∧ kC (tx a) = 1) := by
  unfold atI
  by_cases h : a < ln
  · rw [if_pos h, kC_1]; exact ⟨fun q => ⟨h, q⟩, fun q => q.2⟩
  · rw [if_neg h]; exact ⟨fun q => absurd q.1 (by decide), fun q => absurd q.1 h⟩
theorem at_2 {tx : Tx} {ln a : Nat} : (48 ≤ atI tx ln a ∧ atI tx ln a ≤ 57) ↔ (a < ln ∧ kC (tx a) = 2) := by
  unfold atI
  by_cases h : a < ln
  · rw [if_pos h, kC_2]; exact ⟨fun q => ⟨h, q⟩, fun q => q.2⟩
  · rw [if_neg h]; exact ⟨fun q => absurd q.1 (by decide), fun q => absurd q.1 h⟩
theorem tE_rn {tx : Tx} {ln a k : Nat} (h : a < ln) (hk : kC (tx a) = k) (h3 : k ≠ 3) : rnk tx ln k (ln - a) a = tE tx ln a := by
  unfold tE
  rw [if_pos h, hk, if_neg h3]
theorem tk_in {tx : Tx} {ln a k : Nat} (h : a < ln) (hk : kC (tx a) = k) : tkK tx ln a = k := (if_pos h).trans hk
set_option maxHeartbeats 4000000 in
set_option maxRecDepth 100000 in
theorem lp_nx_1 {G : GT} {C : CT} {V : Mm} {tx : Tx} {ln a b : Nat} (hT : MT2 V tx ln) (ea : sK tx ln b = a) (hal : a < ln) (hk : kC (tx a) = 1) (hx : Cx G mX12_next 1 C) (hq : Cq G (NXQ V tx ln b) C) : ∀ (n i : Nat), i + n = ln → ∀ W : Mm, NXF V W → W 532 11 = nI 1 → W 532 12 = nI a → W 532 13 = nI i → rnk tx ln 1 n i = tE tx ln a → Ew G C (W) 65 [some (adr G 532)] [] := by
  intro n
  induction n with
  | zero =>
    intro i hi W hF e11 e12 e13 he
    refine Ew.aload_n hx dX12_next_65 rfl ?_
    refine Ew.aload_n hx dX12_next_66 rfl ?_
    refine Ew.getI hx dX12_next_67 fg_RX12_158 rfl ?_
    have hl := hT.2.1
    rw [e13]
    refine Ew.callV2 (y' := mX12_at) hx dX12_next_70 ml_RX12_164 cf_X12_at cv_X12_at (ct_X12_at G W (hF.T hT) (i := i) (by omega)) rfl oc_19 rfl (by decide) (by decide) rfl (Nat.le_of_ble_eq_true rfl) ?_
    rintro _ V9 ⟨rfl, h9⟩; subst V9
    refine Ew.bipush hx dX12_next_73 k_bipush_97 ?_
    refine Ew.bipush hx dX12_next_75 k_bipush_122 ?_
    refine Ew.callS (y' := mX12_in) hx dX12_next_77 ml_RX12_38 cf_X12_in cs_X12_in (ct_X12_in G _ _ _ _) rfl (by decide) (by decide) rfl (Nat.le_of_ble_eq_true rfl) ?_
    rintro _ V9 ⟨rfl, h9⟩; subst V9
    rw [b2i_f (fun q => by have q2 := (at_1.mp q).1; omega)]
    refine Ew.if_eq_t hx (tgt := 195) dX12_next_80 rfl (by decide) ?_
    refine Ew.vret hx hq dX12_next_195 rfl ?_
    subst ea
    exact ⟨rfl, hF, hF.T hT, by omega, e11.trans (congrArg nI (tk_in hal hk).symm), e12, e13.trans (congrArg nI (he))⟩
  | succ n ih =>
    intro i hi W hF e11 e12 e13 he
    refine Ew.aload_n hx dX12_next_65 rfl ?_
    refine Ew.aload_n hx dX12_next_66 rfl ?_
    refine Ew.getI hx dX12_next_67 fg_RX12_158 rfl ?_
    have hl := hT.2.1
    rw [e13]
    refine Ew.callV2 (y' := mX12_at) hx dX12_next_70 ml_RX12_164 cf_X12_at cv_X12_at (ct_X12_at G W (hF.T hT) (i := i) (by omega)) rfl oc_19 rfl (by decide) (by decide) rfl (Nat.le_of_ble_eq_true rfl) ?_
    rintro _ V9 ⟨rfl, h9⟩; subst V9
    refine Ew.bipush hx dX12_next_73 k_bipush_97 ?_
    refine Ew.bipush hx dX12_next_75 k_bipush_122 ?_
    refine Ew.callS (y' := mX12_in) hx dX12_next_77 ml_RX12_38 cf_X12_in cs_X12_in (ct_X12_in G _ _ _ _) rfl (by decide) (by decide) rfl (Nat.le_of_ble_eq_true rfl) ?_
    rintro _ V9 ⟨rfl, h9⟩; subst V9
    refine Ew.ifeq_b hx (tgt := 195) dX12_next_80 rfl (fun h80 => ?_) (fun h80 => ?_)
    · have he2 : rnk tx ln 1 (n + 1) i = i := if_neg (fun q => h80 (at_1.mpr q))
      refine Ew.vret hx hq dX12_next_195 rfl ?_
      subst ea
      exact ⟨rfl, hF, hF.T hT, by omega, e11.trans (congrArg nI (tk_in hal hk).symm), e12, e13.trans (congrArg nI (he2.symm.trans he))⟩
    · have he2 : rnk tx ln 1 (n + 1) i = rnk tx ln 1 n (i + 1) := if_pos (at_1.mp h80)
      refine Ew.aload_n hx dX12_next_83 rfl ?_
      refine Ew.dup hx dX12_next_84 rfl ?_
      refine Ew.getI hx dX12_next_85 fg_RX12_158 rfl ?_
      rw [e13]
      refine Ew.iconst hx dX12_next_88 k_iconst_1 ?_
      refine Ew.iadd hx dX12_next_89 ?_
      rw [nI_1]
      refine Ew.putI hx dX12_next_90 pg_RX12_158 rfl ?_
      refine Ew.goto hx (tgt := 65) dX12_next_93 rfl ?_
      exact ih (i + 1) (by omega) _ (hF.m (by decide)) (by rw [mup_oth _ _ _ _ (Or.inr (by decide))]; exact e11) (by rw [mup_oth _ _ _ _ (Or.inr (by decide))]; exact e12) (mup_self _ _ _ _) (he2.symm.trans he)
set_option maxHeartbeats 4000000 in
set_option maxRecDepth 100000 in
theorem lp_nx_2 {G : GT} {C : CT} {V : Mm} {tx : Tx} {ln a b : Nat} (hT : MT2 V tx ln) (ea : sK tx ln b = a) (hal : a < ln) (hk : kC (tx a) = 2) (hx : Cx G mX12_next 1 C) (hq : Cq G (NXQ V tx ln b) C) : ∀ (n i : Nat), i + n = ln → ∀ W : Mm, NXF V W → W 532 11 = nI 2 → W 532 12 = nI a → W 532 13 = nI i → rnk tx ln 2 n i = tE tx ln a → Ew G C (W) 119 [some (adr G 532)] [] := by
  intro n
  induction n with
  | zero =>
    intro i hi W hF e11 e12 e13 he
    refine Ew.aload_n hx dX12_next_119 rfl ?_
    refine Ew.aload_n hx dX12_next_120 rfl ?_
    refine Ew.getI hx dX12_next_121 fg_RX12_158 rfl ?_
    have hl := hT.2.1
    rw [e13]
    refine Ew.callV2 (y' := mX12_at) hx dX12_next_124 ml_RX12_164 cf_X12_at cv_X12_at (ct_X12_at G W (hF.T hT) (i := i) (by omega)) rfl oc_19 rfl (by decide) (by decide) rfl (Nat.le_of_ble_eq_true rfl) ?_
    rintro _ V9 ⟨rfl, h9⟩; subst V9
    refine Ew.bipush hx dX12_next_127 k_bipush_48 ?_
    refine Ew.bipush hx dX12_next_129 k_bipush_57 ?_
    refine Ew.callS (y' := mX12_in) hx dX12_next_131 ml_RX12_38 cf_X12_in cs_X12_in (ct_X12_in G _ _ _ _) rfl (by decide) (by decide) rfl (Nat.le_of_ble_eq_true rfl) ?_
    rintro _ V9 ⟨rfl, h9⟩; subst V9
    rw [b2i_f (fun q => by have q2 := (at_2.mp q).1; omega)]
    refine Ew.if_eq_t hx (tgt := 195) dX12_next_134 rfl (by decide) ?_
    refine Ew.vret hx hq dX12_next_195 rfl ?_
    subst ea
    exact ⟨rfl, hF, hF.T hT, by omega, e11.trans (congrArg nI (tk_in hal hk).symm), e12, e13.trans (congrArg nI (he))⟩
  | succ n ih =>
    intro i hi W hF e11 e12 e13 he
    refine Ew.aload_n hx dX12_next_119 rfl ?_
    refine Ew.aload_n hx dX12_next_120 rfl ?_
    refine Ew.getI hx dX12_next_121 fg_RX12_158 rfl ?_
    have hl := hT.2.1
    rw [e13]
    refine Ew.callV2 (y' := mX12_at) hx dX12_next_124 ml_RX12_164 cf_X12_at cv_X12_at (ct_X12_at G W (hF.T hT) (i := i) (by omega)) rfl oc_19 rfl (by decide) (by decide) rfl (Nat.le_of_ble_eq_true rfl) ?_
    rintro _ V9 ⟨rfl, h9⟩; subst V9
    refine Ew.bipush hx dX12_next_127 k_bipush_48 ?_
    refine Ew.bipush hx dX12_next_129 k_bipush_57 ?_
    refine Ew.callS (y' := mX12_in) hx dX12_next_131 ml_RX12_38 cf_X12_in cs_X12_in (ct_X12_in G _ _ _ _) rfl (by decide) (by decide) rfl (Nat.le_of_ble_eq_true rfl) ?_
    rintro _ V9 ⟨rfl, h9⟩; subst V9
    refine Ew.ifeq_b hx (tgt := 195) dX12_next_134 rfl (fun h134 => ?_) (fun h134 => ?_)
    · have he2 : rnk tx ln 2 (n + 1) i = i := if_neg (fun q => h134 (at_2.mpr q))
      refine Ew.vret hx hq dX12_next_195 rfl ?_
      subst ea
      exact ⟨rfl, hF, hF.T hT, by omega, e11.trans (congrArg nI (tk_in hal hk).symm), e12, e13.trans (congrArg nI (he2.symm.trans he))⟩
    · have he2 : rnk tx ln 2 (n + 1) i = rnk tx ln 2 n (i + 1) := if_pos (at_2.mp h134)
      refine Ew.aload_n hx dX12_next_137 rfl ?_
      refine Ew.dup hx dX12_next_138 rfl ?_
      refine Ew.getI hx dX12_next_139 fg_RX12_158 rfl ?_
      rw [e13]
      refine Ew.iconst hx dX12_next_142 k_iconst_1 ?_
      refine Ew.iadd hx dX12_next_143 ?_
      rw [nI_1]
      refine Ew.putI hx dX12_next_144 pg_RX12_158 rfl ?_
      refine Ew.goto hx (tgt := 119) dX12_next_147 rfl ?_
      exact ih (i + 1) (by omega) _ (hF.m (by decide)) (by rw [mup_oth _ _ _ _ (Or.inr (by decide))]; exact e11) (by rw [mup_oth _ _ _ _ (Or.inr (by decide))]; exact e12) (mup_self _ _ _ _) (he2.symm.trans he)
set_option maxHeartbeats 4000000 in
set_option maxRecDepth 100000 in
theorem nx2 {G : GT} {C : CT} {V W : Mm} {tx : Tx} {ln a b : Nat} (hT : MT2 V tx ln) (hF : NXF V W) (e12 : W 532 12 = nI a) (ea : sK tx ln b = a) (hal : a ≤ ln) (hx : Cx G mX12_next 1 C) (hq : Cq G (NXQ V tx ln b) C) : Ew G C W 34 [some (adr G 532)] [] := by
  have hl := hT.2.1
  have hF1 := hF.m (i := 13) (x := nI a) (by decide)
  have e12b : mup W 532 13 (nI a) 532 12 = nI a := by rw [mup_oth _ _ _ _ (Or.inr (by decide))]; exact e12
  have e7b : mup W 532 13 (nI a) 532 7 = nI ln := (hF1.T hT).1
  have f13 : ∀ x : Int32, mup (mup W 532 13 (nI a)) 532 11 x 532 13 = nI a := fun x => by rw [mup_oth _ _ _ _ (Or.inr (by decide)), mup_self]
  have f12 : ∀ x : Int32, mup (mup W 532 13 (nI a)) 532 11 x 532 12 = nI a := fun x => by rw [mup_oth _ _ _ _ (Or.inr (by decide))]; exact e12b
  have f7 : ∀ x : Int32, mup (mup W 532 13 (nI a)) 532 11 x 532 7 = nI ln := fun x => by rw [mup_oth _ _ _ _ (Or.inr (by decide))]; exact e7b
  refine Ew.aload_n hx dX12_next_34 rfl ?_
  refine Ew.aload_n hx dX12_next_35 rfl ?_
  refine Ew.getI hx dX12_next_36 fg_RX12_161 rfl ?_
  rw [e12]
  refine Ew.putI hx dX12_next_39 pg_RX12_158 rfl ?_
  refine Ew.aload_n hx dX12_next_42 rfl ?_
  refine Ew.aload_n hx dX12_next_43 rfl ?_
  refine Ew.getI hx dX12_next_44 fg_RX12_161 rfl ?_
  rw [e12b]
  refine Ew.callV2 (y' := mX12_at) hx dX12_next_47 ml_RX12_164 cf_X12_at cv_X12_at (ct_X12_at G _ (hF1.T hT) (i := a) (by omega)) rfl oc_19 rfl (by decide) (by decide) rfl (Nat.le_of_ble_eq_true rfl) ?_
  rintro _ V9 ⟨rfl, h9⟩; subst V9
  refine Ew.bipush hx dX12_next_50 k_bipush_97 ?_
  refine Ew.bipush hx dX12_next_52 k_bipush_122 ?_
  refine Ew.callS (y' := mX12_in) hx dX12_next_54 ml_RX12_38 cf_X12_in cs_X12_in (ct_X12_in G _ _ _ _) rfl (by decide) (by decide) rfl (Nat.le_of_ble_eq_true rfl) ?_
  rintro _ V9 ⟨rfl, h9⟩; subst V9
  refine Ew.ifeq_b hx (tgt := 96) dX12_next_57 rfl (fun h57 => ?_) (fun h57 => ?_)
  · have hk1 : ¬ (a < ln ∧ kC (tx a) = 1) := fun q => h57 (at_1.mpr q)
    refine Ew.aload_n hx dX12_next_96 rfl ?_
    refine Ew.aload_n hx dX12_next_97 rfl ?_
    refine Ew.getI hx dX12_next_98 fg_RX12_161 rfl ?_
    rw [e12b]
    refine Ew.callV2 (y' := mX12_at) hx dX12_next_101 ml_RX12_164 cf_X12_at cv_X12_at (ct_X12_at G _ (hF1.T hT) (i := a) (by omega)) rfl oc_19 rfl (by decide) (by decide) rfl (Nat.le_of_ble_eq_true rfl) ?_
    rintro _ V9 ⟨rfl, h9⟩; subst V9
    refine Ew.bipush hx dX12_next_104 k_bipush_48 ?_
    refine Ew.bipush hx dX12_next_106 k_bipush_57 ?_
    refine Ew.callS (y' := mX12_in) hx dX12_next_108 ml_RX12_38 cf_X12_in cs_X12_in (ct_X12_in G _ _ _ _) rfl (by decide) (by decide) rfl (Nat.le_of_ble_eq_true rfl) ?_
    rintro _ V9 ⟨rfl, h9⟩; subst V9
    refine Ew.ifeq_b hx (tgt := 150) dX12_next_111 rfl (fun h111 => ?_) (fun h111 => ?_)
    · have hk2 : ¬ (a < ln ∧ kC (tx a) = 2) := fun q => h111 (at_2.mpr q)
      refine Ew.aload_n hx dX12_next_150 rfl ?_
      refine Ew.aload_n hx dX12_next_151 rfl ?_
      refine Ew.getI hx dX12_next_152 fg_RX12_161 rfl ?_
      refine Ew.aload_n hx dX12_next_155 rfl ?_
      refine Ew.getI hx dX12_next_156 fg_RX12_155 rfl ?_
      rw [e12b, e7b]
      refine Ew.icmp_ge hx (tgt := 166) dX12_next_159 rfl (fun h159 => ?_) (fun h159 => ?_)
      · have h6 : ln ≤ a := by rw [ie, tn (by omega), tn (by omega)] at h159; omega
        refine Ew.iconst hx dX12_next_166 k_iconst_0 ?_
        refine Ew.putI hx dX12_next_167 pg_RX12_167 rfl ?_
        refine Ew.aload_n hx dX12_next_170 rfl ?_
        refine Ew.dup hx dX12_next_171 rfl ?_
        refine Ew.getI hx dX12_next_172 fg_RX12_158 rfl ?_
        refine Ew.aload_n hx dX12_next_175 rfl ?_
        refine Ew.getI hx dX12_next_176 fg_RX12_161 rfl ?_
        refine Ew.aload_n hx dX12_next_179 rfl ?_
        refine Ew.getI hx dX12_next_180 fg_RX12_155 rfl ?_
        rw [f13, f12, f7]
        refine Ew.icmp_ge_t hx (tgt := 190) dX12_next_183 rfl (h159) ?_
        refine Ew.iconst hx dX12_next_190 k_iconst_0 ?_
        refine Ew.iadd hx dX12_next_191 ?_
        refine Ew.putI hx dX12_next_192 pg_RX12_158 rfl ?_
        refine Ew.vret hx hq dX12_next_195 rfl ?_
        refine ⟨rfl, (hF1.m (by decide)).m (by decide), ((hF1.m (by decide)).m (by decide)).T hT, by subst ea; omega, ?_, ?_, ?_⟩
        · rw [mup_oth _ _ _ _ (Or.inr (by decide)), mup_self]
          rw [show tkK tx ln (sK tx ln b) = 0 from if_neg (by omega)]
          rfl
        · rw [mup_oth _ _ _ _ (Or.inr (by decide)), f12, ea]
        · rw [mup_self, show tE tx ln (sK tx ln b) = a from (if_neg (by omega)).trans (by omega)]
          exact Int32.add_zero _
      · have h6 : a < ln := by rw [ie, tn (by omega), tn (by omega)] at h159; omega
        have hk3 : kC (tx a) = 3 := by
          rcases kC_123 (tx a) with q | q | q
          · exact absurd ⟨h6, q⟩ hk1
          · exact absurd ⟨h6, q⟩ hk2
          · exact q
        refine Ew.iconst hx dX12_next_162 k_iconst_3 ?_
        refine Ew.goto hx (tgt := 167) dX12_next_163 rfl ?_
        refine Ew.putI hx dX12_next_167 pg_RX12_167 rfl ?_
        refine Ew.aload_n hx dX12_next_170 rfl ?_
        refine Ew.dup hx dX12_next_171 rfl ?_
        refine Ew.getI hx dX12_next_172 fg_RX12_158 rfl ?_
        refine Ew.aload_n hx dX12_next_175 rfl ?_
        refine Ew.getI hx dX12_next_176 fg_RX12_161 rfl ?_
        refine Ew.aload_n hx dX12_next_179 rfl ?_
        refine Ew.getI hx dX12_next_180 fg_RX12_155 rfl ?_
        rw [f13, f12, f7]
        refine Ew.icmp_ge_f hx (tgt := 190) dX12_next_183 rfl (h159) ?_
        refine Ew.iconst hx dX12_next_186 k_iconst_1 ?_
        refine Ew.goto hx (tgt := 191) dX12_next_187 rfl ?_
        refine Ew.iadd hx dX12_next_191 ?_
        refine Ew.putI hx dX12_next_192 pg_RX12_158 rfl ?_
        refine Ew.vret hx hq dX12_next_195 rfl ?_
        refine ⟨rfl, (hF1.m (by decide)).m (by decide), ((hF1.m (by decide)).m (by decide)).T hT, by subst ea; omega, ?_, ?_, ?_⟩
        · rw [mup_oth _ _ _ _ (Or.inr (by decide)), mup_self, ea, tk_in h6 hk3]
          rfl
        · rw [mup_oth _ _ _ _ (Or.inr (by decide)), f12, ea]
        · rw [mup_self, nI_1, ea, show tE tx ln a = a + 1 from (if_pos h6).trans (if_pos hk3)]
    · have hk := at_2.mp h111
      refine Ew.aload_n hx dX12_next_114 rfl ?_
      refine Ew.iconst hx dX12_next_115 k_iconst_2 ?_
      refine Ew.putI hx dX12_next_116 pg_RX12_167 rfl ?_
      exact lp_nx_2 hT ea hk.1 hk.2 hx hq (ln - a) a (by omega) _ (hF1.m (by decide)) (mup_self _ _ _ _) (by rw [mup_oth _ _ _ _ (Or.inr (by decide))]; exact e12b) (by rw [mup_oth _ _ _ _ (Or.inr (by decide)), mup_self]) (tE_rn hk.1 hk.2 (by decide))
  · have hk := at_1.mp h57
    refine Ew.aload_n hx dX12_next_60 rfl ?_
    refine Ew.iconst hx dX12_next_61 k_iconst_1 ?_
    refine Ew.putI hx dX12_next_62 pg_RX12_167 rfl ?_
    exact lp_nx_1 hT ea hk.1 hk.2 hx hq (ln - a) a (by omega) _ (hF1.m (by decide)) (mup_self _ _ _ _) (by rw [mup_oth _ _ _ _ (Or.inr (by decide))]; exact e12b) (by rw [mup_oth _ _ _ _ (Or.inr (by decide)), mup_self]) (tE_rn hk.1 hk.2 (by decide))
set_option maxHeartbeats 4000000 in
set_option maxRecDepth 100000 in
theorem lp_nx_s {G : GT} {C : CT} {V : Mm} {tx : Tx} {ln b : Nat} (hT : MT2 V tx ln) (hx : Cx G mX12_next 1 C) (hq : Cq G (NXQ V tx ln b) C) : ∀ (n i : Nat), i + n = ln → ∀ W : Mm, NXF V W → W 532 12 = nI i → skp tx ln n i = sK tx ln b → Ew G C (W) 8 [some (adr G 532)] [] := by
  intro n
  induction n with
  | zero =>
    intro i hi W hF e12 he
    refine Ew.aload_n hx dX12_next_8 rfl ?_
    refine Ew.aload_n hx dX12_next_9 rfl ?_
    refine Ew.getI hx dX12_next_10 fg_RX12_161 rfl ?_
    have hl := hT.2.1
    rw [e12]
    refine Ew.callV2 (y' := mX12_at) hx dX12_next_13 ml_RX12_164 cf_X12_at cv_X12_at (ct_X12_at G W (hF.T hT) (i := i) (by omega)) rfl oc_19 rfl (by decide) (by decide) rfl (Nat.le_of_ble_eq_true rfl) ?_
    rintro _ V9 ⟨rfl, h9⟩; subst V9
    refine Ew.bipush hx dX12_next_16 k_bipush_32 ?_
    refine Ew.icmp_ne_t hx (tgt := 34) dX12_next_18 rfl (fun q => by have q2 := (at_sp.mp q).1; omega) ?_
    exact nx2 hT hF e12 he.symm (by omega) hx hq
  | succ n ih =>
    intro i hi W hF e12 he
    refine Ew.aload_n hx dX12_next_8 rfl ?_
    refine Ew.aload_n hx dX12_next_9 rfl ?_
    refine Ew.getI hx dX12_next_10 fg_RX12_161 rfl ?_
    have hl := hT.2.1
    rw [e12]
    refine Ew.callV2 (y' := mX12_at) hx dX12_next_13 ml_RX12_164 cf_X12_at cv_X12_at (ct_X12_at G W (hF.T hT) (i := i) (by omega)) rfl oc_19 rfl (by decide) (by decide) rfl (Nat.le_of_ble_eq_true rfl) ?_
    rintro _ V9 ⟨rfl, h9⟩; subst V9
    refine Ew.bipush hx dX12_next_16 k_bipush_32 ?_
    refine Ew.icmp_ne hx (tgt := 34) dX12_next_18 rfl (fun h18 => ?_) (fun h18 => ?_)
    · have he2 : skp tx ln (n + 1) i = i := if_neg (fun q => h18 (at_sp.mpr q))
      exact nx2 hT hF e12 (he.symm.trans he2) (by omega) hx hq
    · have he2 : skp tx ln (n + 1) i = skp tx ln n (i + 1) := if_pos (at_sp.mp h18)
      refine Ew.aload_n hx dX12_next_21 rfl ?_
      refine Ew.dup hx dX12_next_22 rfl ?_
      refine Ew.getI hx dX12_next_23 fg_RX12_161 rfl ?_
      rw [e12]
      refine Ew.iconst hx dX12_next_26 k_iconst_1 ?_
      refine Ew.iadd hx dX12_next_27 ?_
      rw [nI_1]
      refine Ew.putI hx dX12_next_28 pg_RX12_161 rfl ?_
      refine Ew.goto hx (tgt := 8) dX12_next_31 rfl ?_
      exact ih (i + 1) (by omega) _ (hF.m (by decide)) (mup_self _ _ _ _) (he2.symm.trans he)
set_option maxHeartbeats 4000000 in
set_option maxRecDepth 100000 in
theorem ct_X12_next (G : GT) (V : Mm) {tx : Tx} {ln b : Nat} (hT : MT2 V tx ln) (hb : b ≤ ln) (e13 : V 532 13 = nI b) : Ct G mX12_next 1 [adr G 532] (V) (NXQ V tx ln b) := by
  refine Ct.of cf_X12_next (List.forall_mem_cons.mpr ⟨rfl, fun _ h => absurd h List.not_mem_nil⟩) (Nat.le_of_ble_eq_true rfl) (l0 := [some (adr G 532)]) rfl (fun C hx hq => ?_)
  refine Ew.aload_n hx dX12_next_0 rfl ?_
  refine Ew.aload_n hx dX12_next_1 rfl ?_
  refine Ew.getI hx dX12_next_2 fg_RX12_158 rfl ?_
  rw [e13]
  refine Ew.putI hx dX12_next_5 pg_RX12_161 rfl ?_
  exact lp_nx_s hT hx hq (ln - b) b (by omega) _ ((NXF.rf V).m (by decide)) (mup_self _ _ _ _) rfl
