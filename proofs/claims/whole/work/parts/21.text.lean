def pvx (n : Nat) : Nat := (n + 5) % 6
theorem mup_mup (V : Mm) (k i : Nat) (x y : Int32) : mup (mup V k i x) k i y = mup V k i y := by
  funext a
  by_cases ha : a = k
  · subst ha
    rw [mup_same, mup_same, mup_same]
    funext j
    by_cases hj : j = i
    · subst hj; rw [upd_s, upd_s]
    · rw [upd_n _ _ hj, upd_n _ _ hj, upd_n _ _ hj]
  · rw [mup_ne _ _ _ ha, mup_ne _ _ _ ha, mup_ne _ _ _ ha]
theorem pvH_x {n : Nat} (h : n < 6) : pvH n = (n + 5) % 6 := by
  unfold pvH
  split <;> omega
set_option maxHeartbeats 4000000 in
set_option maxRecDepth 100000 in
theorem ct_X11_undo (G : GT) (V : Mm) {s : Sv} {n z : Nat} {h : Nat → Sv} {B : Int} (hC : CR V s n z h B) : Ct G mX11_undo 4 [adr G 0] (V) (fun v V9 => Fr 1 528 V V9 ∧ ((z = 0 ∧ v = some (.int (-100002)) ∧ V9 = V) ∨ (0 < z ∧ v = some (.int (nI (z - 1))) ∧ CR V9 (h 0) (pvH n) (z - 1) (fun j => h (j + 1)) B))) := by
  refine Ct.of cf_X11_undo (List.forall_mem_cons.mpr ⟨rfl, fun _ h => absurd h List.not_mem_nil⟩) (Nat.le_of_ble_eq_true rfl) (l0 := [some (adr G 0)]) rfl (fun C hx hq => ?_)
  have hn := hC.2.1
  have hz5 := hC.2.2.2.1
  refine Ew.aload_n hx dX11_undo_0 rfl ?_
  refine Ew.getR (76) hx dX11_undo_1 fg_RX11_19 rfl rfl ?_
  refine Ew.getI hx dX11_undo_4 fg_RX11_92 rfl ?_
  rw [hC.2.2.1]
  refine Ew.if_ne hx (tgt := 13) dX11_undo_7 rfl (fun h7 => ?_) (fun h7 => ?_)
  · have h0 : 0 < z := by rw [iq, tn (by omega), tl_0] at h7; omega
    refine Ew.aload_n hx dX11_undo_13 rfl ?_
    refine Ew.getR (76) hx dX11_undo_14 fg_RX11_19 rfl rfl ?_
    refine Ew.callV2 (y' := mX3_dropLatest) hx dX11_undo_17 ml_RX11_97 cf_X3_dropLatest cv_X3_dropLatest (ct_X3_dropLatest G V (n := n) (z := z - 1) hC.1 hn (by rw [hC.2.2.1, show z - 1 + 1 = z by omega]) (by omega)) rfl oc_13 rfl (by decide) (by decide) rfl (Nat.le_of_ble_eq_true rfl) ?_
    rintro _ V9 ⟨rfl, h9⟩; subst V9
    refine Ew.aload_n hx dX11_undo_20 rfl ?_
    refine Ew.getR (1) hx dX11_undo_21 fg_RX11_10 rfl rfl ?_
    refine Ew.aload_n hx dX11_undo_24 rfl ?_
    refine Ew.getR (76) hx dX11_undo_25 fg_RX11_19 rfl rfl ?_
    refine Ew.callV2 (y' := mX3_prepared) hx dX11_undo_28 ml_RX11_100 cf_X3_prepared cv_X3_prepared (ct_X3_prepared G _ (n := pvH n) (by rw [mup_oth _ _ _ _ (Or.inr (by decide)), mup_self]) (by unfold pvH; split <;> omega)) rfl oc_13 rfl (by decide) (by decide) rfl (Nat.le_of_ble_eq_true rfl) ?_
    rintro _ V9 ⟨rfl, h9⟩; subst V9
    obtain ⟨hS0, hW0⟩ := hC.2.2.2.2.2.2 0 h0
    have ep : pvH n = (n + 5 - 0) % 6 := pvH_x hn
    refine Ew.callV2 (y' := mX8_copyFrom) hx dX11_undo_31 ml_RX11_104 cf_X8_copyFrom cv_X8_copyFrom (ct_X8_copyFrom G _ (U := 78 + 75 * pvH n) tn_1 (tn_r (by omega)) (by omega) (show StR _ _ (h 0) from ep ▸ (hS0.frame (fun k h1 h2 => by rw [mup_ne _ _ _ (by omega), mup_ne _ _ _ (by omega)]))) hW0) rfl oc_1 rfl (by decide) (by decide) rfl (Nat.le_of_ble_eq_true rfl) ?_
    rintro _ V9 ⟨rfl, hc, hcF⟩
    refine Ew.aload_n hx dX11_undo_34 rfl ?_
    refine Ew.getR (76) hx dX11_undo_35 fg_RX11_19 rfl rfl ?_
    refine Ew.getI hx dX11_undo_38 fg_RX11_92 rfl ?_
    rw [hcF _ (by omega), mup_self]
    refine Ew.iret hx hq dX11_undo_41 rfl ?_
    refine ⟨fun k hk => by rw [hcF k (by omega), mup_ne _ _ _ (by omega), mup_ne _ _ _ (by omega)], Or.inr ⟨h0, rfl, ?_⟩⟩
    refine ⟨by rw [hcF _ (by omega), mup_oth _ _ _ _ (Or.inr (by decide)), mup_self], by omega, by rw [hcF _ (by omega), mup_self], by omega, hc, hW0, fun j hj => ?_⟩
    have q := hC.2.2.2.2.2.2 (j + 1) (by omega)
    rw [show (pvH n + 5 - j) % 6 = (n + 5 - (j + 1)) % 6 by omega]
    exact ⟨q.1.frame (fun k h1 h2 => by rw [hcF k (by omega), mup_ne _ _ _ (by omega), mup_ne _ _ _ (by omega)]), q.2⟩
  · have h0 : z = 0 := by rw [iq, tn (by omega), tl_0] at h7; omega
    refine Ew.ldc hx dX11_undo_10 kn_RX11_96 ?_
    refine Ew.iret hx hq dX11_undo_12 rfl ?_
    exact ⟨Fr.rfl', Or.inl ⟨h0, rfl, rfl⟩⟩
/-! the text, its tokens -/
abbrev Tx : Type := Nat → Int32
def kC (c : Int32) : Nat := if 97 ≤ c ∧ c ≤ 122 then 1 else if 48 ≤ c ∧ c ≤ 57 then 2 else 3
def kA (tx : Tx) (ln i : Nat) : Nat := if i < ln then kC (tx i) else 3
def skp (tx : Tx) (ln : Nat) : Nat → Nat → Nat
  | 0, e => e
  | n + 1, e => if e < ln ∧ tx e = 32 then skp tx ln n (e + 1) else e
def rnk (tx : Tx) (ln k : Nat) : Nat → Nat → Nat
  | 0, e => e
  | n + 1, e => if e < ln ∧ kC (tx e) = k then rnk tx ln k n (e + 1) else e
def sK (tx : Tx) (ln e : Nat) : Nat := skp tx ln (ln - e) e
def tE (tx : Tx) (ln a : Nat) : Nat := if a < ln then (if kC (tx a) = 3 then a + 1 else rnk tx ln (kC (tx a)) (ln - a) a) else ln
def TX (V : Mm) (tx : Tx) (ln : Nat) : Prop := V 529 1 = nI ln ∧ ln ≤ 140 ∧ ∀ i, i < ln → V 530 i = tx i
theorem kC_123 (c : Int32) : kC c = 1 ∨ kC c = 2 ∨ kC c = 3 := by
  unfold kC
  split
  · exact Or.inl rfl
  · split
    · exact Or.inr (Or.inl rfl)
    · exact Or.inr (Or.inr rfl)
theorem kA_123 (tx : Tx) (ln i : Nat) : kA tx ln i = 1 ∨ kA tx ln i = 2 ∨ kA tx ln i = 3 := by
  unfold kA
  split
  · exact kC_123 _
  · exact Or.inr (Or.inr rfl)
theorem skp_le (tx : Tx) (ln : Nat) : ∀ n e, e + n = ln → e ≤ skp tx ln n e ∧ skp tx ln n e ≤ ln
  | 0, e, h => ⟨Nat.le_refl e, by show e ≤ ln; omega⟩
  | n + 1, e, h => by
    unfold skp
    split
    · have := skp_le tx ln n (e + 1) (by omega)
      omega
    · omega
theorem rnk_le (tx : Tx) (ln k : Nat) : ∀ n e, e + n = ln → e ≤ rnk tx ln k n e ∧ rnk tx ln k n e ≤ ln
  | 0, e, h => ⟨Nat.le_refl e, by show e ≤ ln; omega⟩
  | n + 1, e, h => by
    unfold rnk
    split
    · have := rnk_le tx ln k n (e + 1) (by omega)
      omega
    · omega
theorem sK_le {tx : Tx} {ln e : Nat} (h : e ≤ ln) : e ≤ sK tx ln e ∧ sK tx ln e ≤ ln := skp_le tx ln _ e (by omega)
theorem tE_le {tx : Tx} {ln a : Nat} (h : a ≤ ln) : a ≤ tE tx ln a ∧ tE tx ln a ≤ ln ∧ (a < ln → a < tE tx ln a) := by
  unfold tE
  split
  · split
    · omega
    · have h1 : ln - a = (ln - a - 1) + 1 := by omega
      rw [h1]
      unfold rnk
      rw [if_pos ⟨by assumption, rfl⟩]
      have := rnk_le tx ln (kC (tx a)) (ln - a - 1) (a + 1) (by omega)
      omega
  · omega
theorem TX.mup {V : Mm} {tx : Tx} {ln : Nat} (h : TX V tx ln) {i : Nat} {x : Int32} (hi : i ≠ 1) : TX (mup V 529 i x) tx ln := ⟨by rw [mup_oth _ _ _ _ (Or.inr (Ne.symm hi))]; exact h.1, h.2.1, fun j hj => by rw [mup_oth _ _ _ _ (Or.inl (by decide))]; exact h.2.2 j hj⟩
set_option maxHeartbeats 4000000 in
set_option maxRecDepth 100000 in
theorem ct_X9_kindAt (G : GT) (V : Mm) {tx : Tx} {ln : Nat} (hT : TX V tx ln) {i : Nat} (hi : i < 2 ^ 30) : Ct G mX9_kindAt 0 [adr G 529, .int (nI i)] (V) (Ri (nI (kA tx ln i)) V) := by
  refine Ct.of cf_X9_kindAt (List.forall_mem_cons.mpr ⟨rfl, List.forall_mem_cons.mpr ⟨rfl, fun _ h => absurd h List.not_mem_nil⟩⟩) (Nat.le_of_ble_eq_true rfl) (l0 := [some (adr G 529), some (.int (nI i)), none]) rfl (fun C hx hq => ?_)
  have hl := hT.2.1
  refine Ew.iload_n hx dX9_kindAt_0 rfl ?_
  refine Ew.if_lt_f hx (tgt := 12) dX9_kindAt_1 rfl (nI_pos (by omega)) ?_
  refine Ew.iload_n hx dX9_kindAt_4 rfl ?_
  refine Ew.aload_n hx dX9_kindAt_5 rfl ?_
  refine Ew.getI hx dX9_kindAt_6 fg_RX9_15 rfl ?_
  rw [hT.1]
  refine Ew.icmp_lt hx (tgt := 14) dX9_kindAt_9 rfl (fun h9 => ?_) (fun h9 => ?_)
  · have hi2 : i < ln := by rw [il, tn (by omega), tn (by omega)] at h9; omega
    have ek : kA tx ln i = kC (tx i) := if_pos hi2
    refine Ew.aload_n hx dX9_kindAt_14 rfl ?_
    refine Ew.getR (530) hx dX9_kindAt_15 fg_RX9_9 rfl rfl ?_
    refine Ew.iload_n hx dX9_kindAt_18 rfl ?_
    refine Ew.cald (i := i) hx dX9_kindAt_19 ag_17 rfl (rfl) (by omega) ?_
    rw [hT.2.2 i hi2]
    refine Ew.istore_n hx dX9_kindAt_20 (by decide) rfl ?_
    refine Ew.iload_n hx dX9_kindAt_21 rfl ?_
    refine Ew.bipush hx dX9_kindAt_22 k_bipush_97 ?_
    refine Ew.icmp_lt hx (tgt := 35) dX9_kindAt_24 rfl (fun h24 => ?_) (fun h24 => ?_)
    · have n1 : ¬ (97 ≤ tx i ∧ tx i ≤ 122) := fun q => by have q1 := q.1; rw [ie] at q1; rw [il] at h24; omega
      refine Ew.iload_n hx dX9_kindAt_35 rfl ?_
      refine Ew.bipush hx dX9_kindAt_36 k_bipush_48 ?_
      refine Ew.icmp_lt hx (tgt := 51) dX9_kindAt_38 rfl (fun h38 => ?_) (fun h38 => ?_)
      · have n2 : kC (tx i) = 3 := (if_neg n1).trans (if_neg (fun q => by have q1 := q.1; rw [ie] at q1; rw [il] at h38; omega))
        refine Ew.iconst hx dX9_kindAt_51 k_iconst_3 ?_
        refine Ew.iret hx hq dX9_kindAt_52 rfl ?_
        refine ⟨congrArg (fun z => some (Value.int z)) ?_, rfl⟩
        rw [ek, n2]
        rfl
      · refine Ew.iload_n hx dX9_kindAt_41 rfl ?_
        refine Ew.bipush hx dX9_kindAt_42 k_bipush_57 ?_
        refine Ew.icmp_gt hx (tgt := 51) dX9_kindAt_44 rfl (fun h44 => ?_) (fun h44 => ?_)
        · have n2 : kC (tx i) = 3 := (if_neg n1).trans (if_neg (fun q => by have q1 := q.2; rw [ie] at q1; rw [il] at h44; omega))
          refine Ew.iconst hx dX9_kindAt_51 k_iconst_3 ?_
          refine Ew.iret hx hq dX9_kindAt_52 rfl ?_
          refine ⟨congrArg (fun z => some (Value.int z)) ?_, rfl⟩
          rw [ek, n2]
          rfl
        · have n2 : kC (tx i) = 2 := (if_neg n1).trans (if_pos ⟨by rw [ie]; rw [il] at h38; omega, by rw [ie]; rw [il] at h44; omega⟩)
          refine Ew.iconst hx dX9_kindAt_47 k_iconst_2 ?_
          refine Ew.goto hx (tgt := 52) dX9_kindAt_48 rfl ?_
          refine Ew.iret hx hq dX9_kindAt_52 rfl ?_
          refine ⟨congrArg (fun z => some (Value.int z)) ?_, rfl⟩
          rw [ek, n2]
          rfl
    · refine Ew.iload_n hx dX9_kindAt_27 rfl ?_
      refine Ew.bipush hx dX9_kindAt_28 k_bipush_122 ?_
      refine Ew.icmp_gt hx (tgt := 35) dX9_kindAt_30 rfl (fun h30 => ?_) (fun h30 => ?_)
      · have n1 : ¬ (97 ≤ tx i ∧ tx i ≤ 122) := fun q => by have q1 := q.2; rw [ie] at q1; rw [il] at h30; omega
        refine Ew.iload_n hx dX9_kindAt_35 rfl ?_
        refine Ew.bipush hx dX9_kindAt_36 k_bipush_48 ?_
        refine Ew.icmp_lt hx (tgt := 51) dX9_kindAt_38 rfl (fun h38 => ?_) (fun h38 => ?_)
        · have n2 : kC (tx i) = 3 := (if_neg n1).trans (if_neg (fun q => by have q1 := q.1; rw [ie] at q1; rw [il] at h38; omega))
          refine Ew.iconst hx dX9_kindAt_51 k_iconst_3 ?_
          refine Ew.iret hx hq dX9_kindAt_52 rfl ?_
          refine ⟨congrArg (fun z => some (Value.int z)) ?_, rfl⟩
          rw [ek, n2]
          rfl
        · refine Ew.iload_n hx dX9_kindAt_41 rfl ?_
          refine Ew.bipush hx dX9_kindAt_42 k_bipush_57 ?_
          refine Ew.icmp_gt hx (tgt := 51) dX9_kindAt_44 rfl (fun h44 => ?_) (fun h44 => ?_)
          · have n2 : kC (tx i) = 3 := (if_neg n1).trans (if_neg (fun q => by have q1 := q.2; rw [ie] at q1; rw [il] at h44; omega))
            refine Ew.iconst hx dX9_kindAt_51 k_iconst_3 ?_
            refine Ew.iret hx hq dX9_kindAt_52 rfl ?_
            refine ⟨congrArg (fun z => some (Value.int z)) ?_, rfl⟩
            rw [ek, n2]
            rfl
          · have n2 : kC (tx i) = 2 := (if_neg n1).trans (if_pos ⟨by rw [ie]; rw [il] at h38; omega, by rw [ie]; rw [il] at h44; omega⟩)
            refine Ew.iconst hx dX9_kindAt_47 k_iconst_2 ?_
            refine Ew.goto hx (tgt := 52) dX9_kindAt_48 rfl ?_
            refine Ew.iret hx hq dX9_kindAt_52 rfl ?_
            refine ⟨congrArg (fun z => some (Value.int z)) ?_, rfl⟩
            rw [ek, n2]
            rfl
      · refine Ew.iconst hx dX9_kindAt_33 k_iconst_1 ?_
        refine Ew.iret hx hq dX9_kindAt_34 rfl ?_
        refine ⟨congrArg (fun z => some (Value.int z)) ?_, rfl⟩
        rw [ek, show kC (tx i) = 1 from if_pos ⟨by rw [ie]; rw [il] at h24; omega, by rw [ie]; rw [il] at h30; omega⟩]
        rfl
  · have ek : kA tx ln i = 3 := if_neg (by rw [il, tn (by omega), tn (by omega)] at h9; omega)
    refine Ew.iconst hx dX9_kindAt_12 k_iconst_3 ?_
    refine Ew.iret hx hq dX9_kindAt_13 rfl ?_
    refine ⟨congrArg (fun z => some (Value.int z)) ?_, rfl⟩
    rw [ek]
    rfl
set_option maxHeartbeats 4000000 in
set_option maxRecDepth 100000 in
theorem ct_X9_isAtEnd (G : GT) (V : Mm) {tx : Tx} {ln : Nat} (hT : TX V tx ln) {a : Nat} (ha : a < 2 ^ 30) (e2 : V 529 2 = nI a) : Ct G mX9_isAtEnd 0 [adr G 529] (V) (Ri (b2i (ln ≤ a)) V) := by
  refine Ct.of cf_X9_isAtEnd (List.forall_mem_cons.mpr ⟨rfl, fun _ h => absurd h List.not_mem_nil⟩) (Nat.le_of_ble_eq_true rfl) (l0 := [some (adr G 529)]) rfl (fun C hx hq => ?_)
  have hl := hT.2.1
  refine Ew.aload_n hx dX9_isAtEnd_0 rfl ?_
  refine Ew.getI hx dX9_isAtEnd_1 fg_RX9_26 rfl ?_
  refine Ew.aload_n hx dX9_isAtEnd_4 rfl ?_
  refine Ew.getI hx dX9_isAtEnd_5 fg_RX9_15 rfl ?_
  rw [e2, hT.1]
  refine Ew.icmp_lt hx (tgt := 15) dX9_isAtEnd_8 rfl (fun h8 => ?_) (fun h8 => ?_)
  · refine Ew.iconst hx dX9_isAtEnd_15 k_iconst_0 ?_
    refine Ew.bret hx hq dX9_isAtEnd_16 rfl (by first | exact b2i_01 _ | decide) ?_
    refine ⟨congrArg (fun z => some (Value.int z)) ?_, rfl⟩
    rw [il, tn (by omega), tn (by omega)] at h8
    first | exact (b2i_t (by omega)).symm | exact (b2i_f (by omega)).symm
  · refine Ew.iconst hx dX9_isAtEnd_11 k_iconst_1 ?_
    refine Ew.goto hx (tgt := 16) dX9_isAtEnd_12 rfl ?_
    refine Ew.bret hx hq dX9_isAtEnd_16 rfl (by first | exact b2i_01 _ | decide) ?_
    refine ⟨congrArg (fun z => some (Value.int z)) ?_, rfl⟩
    rw [il, tn (by omega), tn (by omega)] at h8
    first | exact (b2i_t (by omega)).symm | exact (b2i_f (by omega)).symm
set_option maxHeartbeats 4000000 in
set_option maxRecDepth 100000 in
theorem lp_X9_adv2 {G : GT} {C : CT} {V : Mm} {tx : Tx} {ln : Nat} (hT : TX V tx ln) {e b k a : Nat} (hb : b = tE tx ln (sK tx ln e)) (ea : a = sK tx ln e) (hk : k = 1 ∨ k = 2) (hx : Cx G mX9_advance 1 C) (hq : Cq G (Rv (mup (mup V 529 2 (nI (sK tx ln e))) 529 3 (nI (tE tx ln (sK tx ln e))))) C) : ∀ (n i : Nat), i + n = ln → rnk tx ln k n i = b → Ew G C (mup (mup V 529 2 (nI a)) 529 3 (nI i)) 83 [some (adr G 529), some (.int (nI k))] [] := by
  intro n
  induction n with
  | zero =>
    intro i hi he
    refine Ew.iload_n hx dX9_advance_83 rfl ?_
    refine Ew.iconst hx dX9_advance_84 k_iconst_3 ?_
    refine Ew.icmp_eq_f hx (tgt := 124) dX9_advance_85 rfl (fun q => by rw [iq, tn (by omega), tl_3] at q; omega) ?_
    refine Ew.aload_n hx dX9_advance_88 rfl ?_
    refine Ew.getI hx dX9_advance_89 fg_RX9_20 rfl ?_
    refine Ew.aload_n hx dX9_advance_92 rfl ?_
    refine Ew.getI hx dX9_advance_93 fg_RX9_15 rfl ?_
    have hl := hT.2.1
    rw [mup_self, mup_oth _ _ _ _ (Or.inr (by decide)), mup_oth _ _ _ _ (Or.inr (by decide)), hT.1]
    refine Ew.icmp_ge_t hx (tgt := 124) dX9_advance_96 rfl (nI_le (by omega) (by omega)) ?_
    refine Ew.vret hx hq dX9_advance_124 rfl ?_
    have eb : i = b := he
    rw [eb, ea, hb]
    exact ⟨rfl, rfl⟩
  | succ n ih =>
    intro i hi he
    refine Ew.iload_n hx dX9_advance_83 rfl ?_
    refine Ew.iconst hx dX9_advance_84 k_iconst_3 ?_
    refine Ew.icmp_eq_f hx (tgt := 124) dX9_advance_85 rfl (fun q => by rw [iq, tn (by omega), tl_3] at q; omega) ?_
    refine Ew.aload_n hx dX9_advance_88 rfl ?_
    refine Ew.getI hx dX9_advance_89 fg_RX9_20 rfl ?_
    refine Ew.aload_n hx dX9_advance_92 rfl ?_
    refine Ew.getI hx dX9_advance_93 fg_RX9_15 rfl ?_
    have hl := hT.2.1
    rw [mup_self, mup_oth _ _ _ _ (Or.inr (by decide)), mup_oth _ _ _ _ (Or.inr (by decide)), hT.1]
    refine Ew.icmp_ge_f hx (tgt := 124) dX9_advance_96 rfl (nI_ge (by omega) (by omega)) ?_
    refine Ew.aload_n hx dX9_advance_99 rfl ?_
    refine Ew.aload_n hx dX9_advance_100 rfl ?_
    skip
    refine Ew.getI hx dX9_advance_101 fg_RX9_20 rfl ?_
    rw [mup_self]
    refine Ew.callV2 (y' := mX9_kindAt) hx dX9_advance_104 ml_RX9_29 cf_X9_kindAt cv_X9_kindAt (ct_X9_kindAt G _ ((hT.mup (i := 2) (by decide)).mup (i := 3) (by decide)) (i := i) (by omega)) rfl oc_16 rfl (by decide) (by decide) rfl (Nat.le_of_ble_eq_true rfl) ?_
    rintro _ V9 ⟨rfl, h9⟩; subst V9
    refine Ew.iload_n hx dX9_advance_107 rfl ?_
    have ek : kA tx ln i = kC (tx i) := if_pos (by omega)
    have k3 := kC_123 (tx i)
    rw [ek]
    refine Ew.icmp_ne hx (tgt := 124) dX9_advance_108 rfl (fun h108 => ?_) (fun h108 => ?_)
    · have he2 : rnk tx ln k (n + 1) i = i := if_neg (fun q => h108 (by rw [q.2]))
      refine Ew.vret hx hq dX9_advance_124 rfl ?_
      rw [he2] at he
      rw [he, ea, hb]
      exact ⟨rfl, rfl⟩
    · have he2 : rnk tx ln k (n + 1) i = rnk tx ln k n (i + 1) := if_pos ⟨by omega, (nI_eq (by omega) (by omega)).mp h108⟩
      refine Ew.aload_n hx dX9_advance_111 rfl ?_
      refine Ew.dup hx dX9_advance_112 rfl ?_
      refine Ew.getI hx dX9_advance_113 fg_RX9_20 rfl ?_
      refine Ew.iconst hx dX9_advance_116 k_iconst_1 ?_
      refine Ew.iadd hx dX9_advance_117 ?_
      rw [mup_self, nI_1]
      refine Ew.putI hx dX9_advance_118 pg_RX9_20 rfl ?_
      refine Ew.goto hx (tgt := 83) dX9_advance_121 rfl ?_
      rw [mup_mup]
      exact ih (i + 1) (by omega) (by rw [← he2]; exact he)
set_option maxHeartbeats 4000000 in
set_option maxRecDepth 100000 in
theorem adv_mid {G : GT} {C : CT} {V : Mm} {tx : Tx} {ln : Nat} (hT : TX V tx ln) {e a b0 : Nat} (ea : a = sK tx ln e) (hal : a ≤ ln) (hb : b0 = if a < ln then a + 1 else ln) (hx : Cx G mX9_advance 1 C) (hq : Cq G (Rv (mup (mup V 529 2 (nI (sK tx ln e))) 529 3 (nI (tE tx ln (sK tx ln e))))) C) : Ew G C (mup (mup V 529 2 (nI a)) 529 3 (nI b0)) 83 [some (adr G 529), some (.int (nI (kA tx ln a)))] [] := by
  have hl := hT.2.1
  have k3 := kA_123 tx ln a
  by_cases hk : kA tx ln a = 3
  · rw [hk]
    refine Ew.iload_n hx dX9_advance_83 rfl ?_
    refine Ew.iconst hx dX9_advance_84 k_iconst_3 ?_
    refine Ew.icmp_eq_t hx (tgt := 124) dX9_advance_85 rfl (rfl) ?_
    refine Ew.vret hx hq dX9_advance_124 rfl ?_
    have et : tE tx ln (sK tx ln e) = if a < ln then a + 1 else ln := by
      rw [← ea]
      unfold tE
      by_cases hal2 : a < ln
      · rw [if_pos hal2, if_pos hal2, if_pos (by rw [← hk]; exact (if_pos hal2).symm)]
      · rw [if_neg hal2, if_neg hal2]
    rw [et, ← ea, hb]
    exact ⟨rfl, rfl⟩
  · have hal2 : a < ln := by
      rcases Nat.lt_or_ge a ln with q | q
      · exact q
      · exact absurd (if_neg (by omega)) hk
    have hk2 : kA tx ln a = kC (tx a) := if_pos hal2
    have eb : tE tx ln a = rnk tx ln (kA tx ln a) (ln - (a + 1)) (a + 1) := by
      rw [hk2]
      unfold tE
      rw [if_pos hal2, if_neg (by rw [← hk2]; exact hk), show ln - a = (ln - (a + 1)) + 1 by omega]
      exact if_pos ⟨hal2, rfl⟩
    rw [hb, if_pos hal2]
    exact lp_X9_adv2 hT (e := e) (b := tE tx ln a) (k := kA tx ln a) (a := a) (by rw [ea]) ea (by omega) hx hq (ln - (a + 1)) (a + 1) (by omega) eb.symm
set_option maxHeartbeats 4000000 in
set_option maxRecDepth 100000 in
theorem adv_end {G : GT} {C : CT} {V : Mm} {tx : Tx} {ln : Nat} (hT : TX V tx ln) {e a : Nat} (ea : a = sK tx ln e) (he : e ≤ ln) (hx : Cx G mX9_advance 1 C) (hq : Cq G (Rv (mup (mup V 529 2 (nI (sK tx ln e))) 529 3 (nI (tE tx ln (sK tx ln e))))) C) : Ew G C (mup V 529 2 (nI a)) 46 [some (adr G 529), none] [] := by
  have hl := hT.2.1
  have hle := sK_le (tx := tx) he
  refine Ew.aload_n hx dX9_advance_46 rfl ?_
  refine Ew.aload_n hx dX9_advance_47 rfl ?_
  refine Ew.getI hx dX9_advance_48 fg_RX9_26 rfl ?_
  refine Ew.aload_n hx dX9_advance_51 rfl ?_
  refine Ew.getI hx dX9_advance_52 fg_RX9_15 rfl ?_
  rw [mup_self, mup_oth _ _ _ _ (Or.inr (by decide)), hT.1]
  refine Ew.icmp_ge hx (tgt := 67) dX9_advance_55 rfl (fun h55 => ?_) (fun h55 => ?_)
  · have hal : ¬ a < ln := by rw [ie, tn (by omega), tn (by omega)] at h55; omega
    refine Ew.aload_n hx dX9_advance_67 rfl ?_
    refine Ew.getI hx dX9_advance_68 fg_RX9_15 rfl ?_
    try rw [mup_oth _ _ _ _ (Or.inr (by decide)), hT.1]
    refine Ew.putI hx dX9_advance_71 pg_RX9_20 rfl ?_
    refine Ew.aload_n hx dX9_advance_74 rfl ?_
    refine Ew.aload_n hx dX9_advance_75 rfl ?_
    refine Ew.getI hx dX9_advance_76 fg_RX9_26 rfl ?_
    rw [mup_oth _ _ _ _ (Or.inr (by decide)), mup_self]
    refine Ew.callV2 (y' := mX9_kindAt) hx dX9_advance_79 ml_RX9_29 cf_X9_kindAt cv_X9_kindAt (ct_X9_kindAt G _ ((hT.mup (i := 2) (by decide)).mup (i := 3) (by decide)) (i := a) (by omega)) rfl oc_16 rfl (by decide) (by decide) rfl (Nat.le_of_ble_eq_true rfl) ?_
    rintro _ V9 ⟨rfl, h9⟩; subst V9
    refine Ew.istore_n hx dX9_advance_82 (by decide) rfl ?_
    first
      | exact adv_mid hT ea (by omega) (if_pos hal).symm hx hq
      | exact adv_mid hT ea (by omega) (if_neg hal).symm hx hq
  · have hal : a < ln := by rw [ie, tn (by omega), tn (by omega)] at h55; omega
    refine Ew.aload_n hx dX9_advance_58 rfl ?_
    refine Ew.getI hx dX9_advance_59 fg_RX9_26 rfl ?_
    rw [mup_self]
    refine Ew.iconst hx dX9_advance_62 k_iconst_1 ?_
    refine Ew.iadd hx dX9_advance_63 ?_
    rw [nI_1]
    refine Ew.goto hx (tgt := 71) dX9_advance_64 rfl ?_
    try rw [mup_oth _ _ _ _ (Or.inr (by decide)), hT.1]
    refine Ew.putI hx dX9_advance_71 pg_RX9_20 rfl ?_
    refine Ew.aload_n hx dX9_advance_74 rfl ?_
    refine Ew.aload_n hx dX9_advance_75 rfl ?_
    refine Ew.getI hx dX9_advance_76 fg_RX9_26 rfl ?_
    rw [mup_oth _ _ _ _ (Or.inr (by decide)), mup_self]
    refine Ew.callV2 (y' := mX9_kindAt) hx dX9_advance_79 ml_RX9_29 cf_X9_kindAt cv_X9_kindAt (ct_X9_kindAt G _ ((hT.mup (i := 2) (by decide)).mup (i := 3) (by decide)) (i := a) (by omega)) rfl oc_16 rfl (by decide) (by decide) rfl (Nat.le_of_ble_eq_true rfl) ?_
    rintro _ V9 ⟨rfl, h9⟩; subst V9
    refine Ew.istore_n hx dX9_advance_82 (by decide) rfl ?_
    first
      | exact adv_mid hT ea (by omega) (if_pos hal).symm hx hq
      | exact adv_mid hT ea (by omega) (if_neg hal).symm hx hq
set_option maxHeartbeats 4000000 in
set_option maxRecDepth 100000 in
theorem lp_X9_adv1 {G : GT} {C : CT} {V : Mm} {tx : Tx} {ln : Nat} (hT : TX V tx ln) {e : Nat} (he : e ≤ ln) (hx : Cx G mX9_advance 1 C) (hq : Cq G (Rv (mup (mup V 529 2 (nI (sK tx ln e))) 529 3 (nI (tE tx ln (sK tx ln e))))) C) : ∀ (n i : Nat), i + n = ln → skp tx ln n i = sK tx ln e → Ew G C (mup V 529 2 (nI i)) 8 [some (adr G 529), none] [] := by
  intro n
  induction n with
  | zero =>
    intro i hi hs
    refine Ew.aload_n hx dX9_advance_8 rfl ?_
    refine Ew.getI hx dX9_advance_9 fg_RX9_26 rfl ?_
    refine Ew.aload_n hx dX9_advance_12 rfl ?_
    refine Ew.getI hx dX9_advance_13 fg_RX9_15 rfl ?_
    have hl := hT.2.1
    rw [mup_self, mup_oth _ _ _ _ (Or.inr (by decide)), hT.1]
    refine Ew.icmp_ge_t hx (tgt := 46) dX9_advance_16 rfl (nI_le (by omega) (by omega)) ?_
    exact adv_end hT hs he hx hq
  | succ n ih =>
    intro i hi hs
    refine Ew.aload_n hx dX9_advance_8 rfl ?_
    refine Ew.getI hx dX9_advance_9 fg_RX9_26 rfl ?_
    refine Ew.aload_n hx dX9_advance_12 rfl ?_
    refine Ew.getI hx dX9_advance_13 fg_RX9_15 rfl ?_
    have hl := hT.2.1
    rw [mup_self, mup_oth _ _ _ _ (Or.inr (by decide)), hT.1]
    refine Ew.icmp_ge_f hx (tgt := 46) dX9_advance_16 rfl (nI_ge (by omega) (by omega)) ?_
    refine Ew.aload_n hx dX9_advance_19 rfl ?_
    refine Ew.getR (530) hx dX9_advance_20 fg_RX9_9 rfl rfl ?_
    refine Ew.aload_n hx dX9_advance_23 rfl ?_
    refine Ew.getI hx dX9_advance_24 fg_RX9_26 rfl ?_
    rw [mup_self]
    refine Ew.cald (i := i) hx dX9_advance_27 ag_17 rfl (rfl) (by omega) ?_
    refine Ew.bipush hx dX9_advance_28 k_bipush_32 ?_
    rw [mup_oth _ _ _ _ (Or.inl (by decide)), hT.2.2 i (by omega)]
    refine Ew.icmp_ne hx (tgt := 46) dX9_advance_30 rfl (fun h30 => ?_) (fun h30 => ?_)
    · have hs2 : skp tx ln (n + 1) i = i := if_neg (fun q => h30 q.2)
      exact adv_end hT (hs2.symm.trans hs) he hx hq
    · have hs2 : skp tx ln (n + 1) i = skp tx ln n (i + 1) := if_pos ⟨by omega, h30⟩
      refine Ew.aload_n hx dX9_advance_33 rfl ?_
      refine Ew.dup hx dX9_advance_34 rfl ?_
      refine Ew.getI hx dX9_advance_35 fg_RX9_26 rfl ?_
      refine Ew.iconst hx dX9_advance_38 k_iconst_1 ?_
      refine Ew.iadd hx dX9_advance_39 ?_
      rw [mup_self, nI_1]
      refine Ew.putI hx dX9_advance_40 pg_RX9_26 rfl ?_
      refine Ew.goto hx (tgt := 8) dX9_advance_43 rfl ?_
      rw [mup_mup]
      exact ih (i + 1) (by omega) (hs2.symm.trans hs)
set_option maxHeartbeats 4000000 in
set_option maxRecDepth 100000 in
theorem ct_X9_advance (G : GT) (V : Mm) {tx : Tx} {ln : Nat} (hT : TX V tx ln) {e : Nat} (he : e ≤ ln) (e3 : V 529 3 = nI e) : Ct G mX9_advance 1 [adr G 529] (V) (Rv (mup (mup V 529 2 (nI (sK tx ln e))) 529 3 (nI (tE tx ln (sK tx ln e))))) := by
  refine Ct.of cf_X9_advance (List.forall_mem_cons.mpr ⟨rfl, fun _ h => absurd h List.not_mem_nil⟩) (Nat.le_of_ble_eq_true rfl) (l0 := [some (adr G 529), none]) rfl (fun C hx hq => ?_)
  refine Ew.aload_n hx dX9_advance_0 rfl ?_
  refine Ew.aload_n hx dX9_advance_1 rfl ?_
  refine Ew.getI hx dX9_advance_2 fg_RX9_20 rfl ?_
  rw [e3]
  refine Ew.putI hx dX9_advance_5 pg_RX9_26 rfl ?_
  exact lp_X9_adv1 hT he hx hq (ln - e) e (by omega) rfl
set_option maxHeartbeats 4000000 in
set_option maxRecDepth 100000 in
theorem ct_X9_rewind (G : GT) (V : Mm) {tx : Tx} {ln : Nat} (hT : TX V tx ln) : Ct G mX9_rewind 2 [adr G 529] (V) (Rv (mup (mup V 529 2 (nI (sK tx ln 0))) 529 3 (nI (tE tx ln (sK tx ln 0))))) := by
  refine Ct.of cf_X9_rewind (List.forall_mem_cons.mpr ⟨rfl, fun _ h => absurd h List.not_mem_nil⟩) (Nat.le_of_ble_eq_true rfl) (l0 := [some (adr G 529)]) rfl (fun C hx hq => ?_)
  refine Ew.aload_n hx dX9_rewind_0 rfl ?_
  refine Ew.iconst hx dX9_rewind_1 k_iconst_0 ?_
  refine Ew.putI hx dX9_rewind_2 pg_RX9_20 rfl ?_
  refine Ew.aload_n hx dX9_rewind_5 rfl ?_
  refine Ew.callV2 (y' := mX9_advance) hx dX9_rewind_6 ml_RX9_23 cf_X9_advance cv_X9_advance (ct_X9_advance G _ (hT.mup (i := 3) (by decide)) (e := 0) (by omega) (mup_self _ _ _ _)) rfl oc_16 rfl (by decide) (by decide) rfl (Nat.le_of_ble_eq_true rfl) ?_
  rintro _ V9 ⟨rfl, h9⟩; subst V9
  refine Ew.vret hx hq dX9_rewind_9 rfl ?_
  refine ⟨rfl, ?_⟩
  funext a
  by_cases ha : a = 529
  · subst ha
    simp only [mup_same]
    funext j
    simp only [upd]
    repeat' split
    all_goals first | rfl | omega
  · simp only [mup_ne _ _ _ ha]
