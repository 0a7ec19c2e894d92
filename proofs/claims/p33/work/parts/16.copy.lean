def Sn (S : Nat) : Prop := kd S = 2 ∧ kd (S + 1) = 3 ∧ kd (S + 2) = 4 ∧ kd (S + 3) = 5 ∧ kd (S + 4) = 6 ∧ kd (S + 5) = 6 ∧ kd (S + 6) = 7 ∧ kd (S + 7) = 8 ∧ (∀ r, r < 4 → kd (S + 8 + r) = 9) ∧ (∀ p, p < 12 → kd (S + 12 + p) = 10)
def Tn (T : Nat) : Prop := kd T = 1 ∧ kd (T + 25) = 11 ∧ kd (T + 26) = 12 ∧ Sn (T + 1) ∧ ∀ i, i < 2 → Sn (T + 27 + 24 * i)
theorem tn_1 : Tn 1 := by unfold Tn Sn; decide +kernel
theorem tn_r {i : Nat} (h : i < 6) : Tn (78 + 75 * i) := by
  rcases (show i = 0 ∨ i = 1 ∨ i = 2 ∨ i = 3 ∨ i = 4 ∨ i = 5 by omega) with h | h | h | h | h | h <;> subst h <;> unfold Tn Sn <;> decide +kernel
theorem cpy_cpF (f g : Nat → Int32) (n : Nat) : va_cpy f g 0 0 n = cpF g f n := by
  funext j
  unfold va_cpy cpF
  by_cases h : j < n
  · rw [if_pos ⟨Nat.zero_le _, by omega⟩, if_pos h]
    congr 1
    omega
  · rw [if_neg (by omega), if_neg h]
theorem if_rs (V : Mm) (k : Nat) (f : Nat → Int32) : (fun a => if a = k then f else V a) = rs V k f := rfl
theorem cpF_lt {f g : Nat → Int32} {n j : Nat} (h : j < n) : cpF f g n j = g j := if_pos h
def RepE (V : Mm) (S : Nat) (s : Sv) (nr np e : Nat) : Prop := ∀ m, rel nr np m → m ≠ e → V (clc S m) (csl m) = s m
theorem RepE.full {V : Mm} {S : Nat} {s : Sv} {nr np : Nat} (h : RepE V S s nr np 193) : RepN V S s nr np := fun m hm => h m hm (by have := rel_lt hm; omega)
theorem RepN.ex {V : Mm} {S : Nat} {s : Sv} {nr np : Nat} (h : RepN V S s nr np) (e : Nat) : RepE V S s nr np e := fun m hm _ => h m hm
theorem RepE.ramp {V : Mm} {S : Nat} {s : Sv} {i e : Nat} (h : RepE V S s i 0 e) (hi : i < 4) {f : Nat → Int32} (hf : ∀ j, j < 3 → f j = s (37 + 3 * i + j)) : RepE (rs V (S + 8 + i) f) S s (i + 1) 0 e := by
  intro m hm he
  by_cases hc : 37 + 3 * i ≤ m
  · have hl : m < 37 + 3 * i + 3 := by unfold rel at hm; omega
    have q := cl_rm (S := S) (r := i) (j := m - (37 + 3 * i)) hi (by omega)
    rw [show 37 + 3 * i + (m - (37 + 3 * i)) = m by omega] at q
    rw [q.1, q.2, rs_same, hf _ (by omega)]
    congr 1
    omega
  · rw [rs_ne]
    · exact h m (by unfold rel at hm ⊢; omega) he
    · unfold clc
      repeat' split
      all_goals omega
theorem RepE.perm {V : Mm} {S : Nat} {s : Sv} {nr i e : Nat} (h : RepE V S s nr i e) (hi : i < 12) {f : Nat → Int32} (hf : ∀ j, j < 12 → f j = s (49 + 12 * i + j)) : RepE (rs V (S + 12 + i) f) S s nr (i + 1) e := by
  intro m hm he
  by_cases hc : 49 + 12 * i ≤ m
  · have hl : m < 49 + 12 * i + 12 := by unfold rel at hm; omega
    have q := cl_pm (S := S) (p := i) (j := m - (49 + 12 * i)) (by omega)
    rw [show 49 + 12 * i + (m - (49 + 12 * i)) = m by omega] at q
    rw [q.1, q.2, rs_same, hf _ (by omega)]
    congr 1
    omega
  · rw [rs_ne]
    · exact h m (by unfold rel at hm ⊢; omega) he
    · unfold clc
      repeat' split
      all_goals omega
set_option maxHeartbeats 4000000 in
set_option maxRecDepth 100000 in
theorem ct_X10_copyFrom (G : GT) (V : Mm) (k q : Nat) (h0 : kd k = 3) (h1 : kd q = 3) (h2 : kd (k + 1) = 4) (h3 : kd (q + 1) = 4) (n1 : q ≠ k) (n2 : k + 1 ≠ k) (n3 : q + 1 ≠ k) : Ct G mX10_copyFrom 1 [adr G k, adr G q] (V) (Rv (rs (rs V k (cpF (V k) (V q) 2)) (k + 1) (cpF (V (k + 1)) (V (q + 1)) 26))) := by
  refine Ct.of cf_X10_copyFrom (List.forall_mem_cons.mpr ⟨rfl, List.forall_mem_cons.mpr ⟨rfl, fun _ h => absurd h List.not_mem_nil⟩⟩) (Nat.le_of_ble_eq_true rfl) (l0 := [some (adr G k), some (adr G q)]) rfl (fun C hx hq => ?_)
  refine Ew.aload_n hx dX10_copyFrom_0 rfl ?_
  refine Ew.aload_n hx dX10_copyFrom_1 rfl ?_
  refine Ew.getI hx dX10_copyFrom_2 fg_RX10_19 (h1) ?_
  refine Ew.putI hx dX10_copyFrom_5 pg_RX10_19 (h0) ?_
  refine Ew.aload_n hx dX10_copyFrom_8 rfl ?_
  refine Ew.aload_n hx dX10_copyFrom_9 rfl ?_
  refine Ew.getI hx dX10_copyFrom_10 fg_RX10_9 (h1) ?_
  refine Ew.putI hx dX10_copyFrom_13 pg_RX10_9 (h0) ?_
  refine Ew.aload_n hx dX10_copyFrom_16 rfl ?_
  refine Ew.getR (q + 1) hx dX10_copyFrom_17 fg_RX10_15 (h1) (by omega) ?_
  refine Ew.iconst hx dX10_copyFrom_20 k_iconst_0 ?_
  refine Ew.aload_n hx dX10_copyFrom_21 rfl ?_
  refine Ew.getR (k + 1) hx dX10_copyFrom_22 fg_RX10_15 (h0) (by omega) ?_
  refine Ew.iconst hx dX10_copyFrom_25 k_iconst_0 ?_
  refine Ew.bipush hx dX10_copyFrom_26 k_bipush_26 ?_
  refine Ew.copyi hx dX10_copyFrom_28 ml_RX10_22 kw_copy ag_4 ag_4 h3 h2 (m := 26) rfl (by decide) (by decide) (by decide) (by decide) (Nat.le_of_ble_eq_true rfl) ?_
  refine Ew.vret hx hq dX10_copyFrom_31 rfl ?_
  refine ⟨rfl, ?_⟩
  rw [if_rs, cpy_cpF]
  simp only [mup_rs, rs_same, rs_rs, rs_ne _ _ n1, rs_ne _ _ n2, rs_ne _ _ n3]
  congr 2
  funext j
  simp only [cpF, upd]
  repeat' split
  all_goals first | rfl | omega | (subst_vars; rfl)
set_option maxHeartbeats 4000000 in
set_option maxRecDepth 100000 in
theorem ct_X2_copyFrom (G : GT) (V : Mm) (k q : Nat) (h0 : kd k = 5) (h1 : kd q = 5) (h2 : kd (k + 1) = 6) (h3 : kd (q + 1) = 6) (h4 : kd (k + 2) = 6) (h5 : kd (q + 2) = 6) (n1 : q ≠ k) (n2 : q + 2 ≠ k + 1) (n3 : q ≠ k + 1) (n4 : q ≠ k + 2) : Ct G mX2_copyFrom 1 [adr G k, adr G q] (V) (Rv (rs (rs (rs V (k + 1) (cpF (V (k + 1)) (V (q + 1)) 3)) (k + 2) (cpF (V (k + 2)) (V (q + 2)) 3)) k (upd (V k) 2 (V q 2)))) := by
  refine Ct.of cf_X2_copyFrom (List.forall_mem_cons.mpr ⟨rfl, List.forall_mem_cons.mpr ⟨rfl, fun _ h => absurd h List.not_mem_nil⟩⟩) (Nat.le_of_ble_eq_true rfl) (l0 := [some (adr G k), some (adr G q)]) rfl (fun C hx hq => ?_)
  refine Ew.aload_n hx dX2_copyFrom_0 rfl ?_
  refine Ew.getR (q + 1) hx dX2_copyFrom_1 fg_RX2_9 (h1) (by omega) ?_
  refine Ew.iconst hx dX2_copyFrom_4 k_iconst_0 ?_
  refine Ew.aload_n hx dX2_copyFrom_5 rfl ?_
  refine Ew.getR (k + 1) hx dX2_copyFrom_6 fg_RX2_9 (h0) (by omega) ?_
  refine Ew.iconst hx dX2_copyFrom_9 k_iconst_0 ?_
  refine Ew.iconst hx dX2_copyFrom_10 k_iconst_3 ?_
  refine Ew.copyi hx dX2_copyFrom_11 ml_RX2_18 kw_copy ag_6 ag_6 h3 h2 (m := 3) rfl (by decide) (by decide) (by decide) (by decide) (Nat.le_of_ble_eq_true rfl) ?_
  refine Ew.aload_n hx dX2_copyFrom_14 rfl ?_
  refine Ew.getR (q + 2) hx dX2_copyFrom_15 fg_RX2_15 (h1) (by omega) ?_
  refine Ew.iconst hx dX2_copyFrom_18 k_iconst_0 ?_
  refine Ew.aload_n hx dX2_copyFrom_19 rfl ?_
  refine Ew.getR (k + 2) hx dX2_copyFrom_20 fg_RX2_15 (h0) (by omega) ?_
  refine Ew.iconst hx dX2_copyFrom_23 k_iconst_0 ?_
  refine Ew.iconst hx dX2_copyFrom_24 k_iconst_3 ?_
  refine Ew.copyi hx dX2_copyFrom_25 ml_RX2_18 kw_copy ag_6 ag_6 h5 h4 (m := 3) rfl (by decide) (by decide) (by decide) (by decide) (Nat.le_of_ble_eq_true rfl) ?_
  refine Ew.aload_n hx dX2_copyFrom_28 rfl ?_
  refine Ew.aload_n hx dX2_copyFrom_29 rfl ?_
  refine Ew.getI hx dX2_copyFrom_30 fg_RX2_24 (h1) ?_
  refine Ew.putI hx dX2_copyFrom_33 pg_RX2_24 (h0) ?_
  refine Ew.vret hx hq dX2_copyFrom_36 rfl ?_
  refine ⟨rfl, ?_⟩
  simp only [if_rs, cpy_cpF, mup_rs, if_neg n4, if_neg n3, if_neg n2, if_neg (show ¬ k + 2 = k + 1 by omega), rs_ne _ _ (show k ≠ k + 2 by omega), rs_ne _ _ (show k ≠ k + 1 by omega), rs_ne _ _ n4, rs_ne _ _ n3, rs_ne _ _ n2, rs_ne _ _ (show k + 2 ≠ k + 1 by omega)]
set_option maxHeartbeats 4000000 in
set_option maxRecDepth 100000 in
theorem lp_X7_copyP {G : GT} {C : CT} {V : Mm} {s : Sv} {nr np S Q : Nat} (hS : Sn S) (hQ : Sn Q) (hd : S + 24 ≤ Q ∨ Q + 24 ≤ S) (hR : RepN V Q s nr np) (e2 : V Q 4 = nI nr) (hnr : nr ≤ 4) (e3 : V Q 5 = nI np) (hnp : np ≤ 12) (h01 : ∀ p, p < np → V (Q + 12 + p) 11 = 0 ∨ V (Q + 12 + p) 11 = 1) (hx : Cx G mX7_copyFrom 2 C) (hq : Cq G (fun v V9 => v = none ∧ RepN V9 S s nr np ∧ Fr S (S + 24) V V9) C) : ∀ (n i : Nat), i + n = np → ∀ W : Mm, Fr S (S + 24) V W → W S 5 = nI np → RepE W S s nr i 193 → Ew G C (W) 71 [some (adr G S), some (adr G Q), some (.int (nI i))] [] := by
  intro n
  induction n with
  | zero =>
    intro i hi W hF eP hI
    refine Ew.iload_n hx dX7_copyFrom_71 rfl ?_
    refine Ew.aload_n hx dX7_copyFrom_72 rfl ?_
    refine Ew.getI hx dX7_copyFrom_73 fg_RX7_53 (hS.1) ?_
    rw [eP]
    refine Ew.icmp_ge_t hx (tgt := 100) dX7_copyFrom_76 rfl (nI_le (by omega) (by omega)) ?_
    refine Ew.vret hx hq dX7_copyFrom_100 rfl ?_
    rw [show i = np by omega] at hI
    exact ⟨rfl, hI.full, hF⟩
  | succ n ih =>
    intro i hi W hF eP hI
    refine Ew.iload_n hx dX7_copyFrom_71 rfl ?_
    refine Ew.aload_n hx dX7_copyFrom_72 rfl ?_
    refine Ew.getI hx dX7_copyFrom_73 fg_RX7_53 (hS.1) ?_
    rw [eP]
    refine Ew.icmp_ge_f hx (tgt := 100) dX7_copyFrom_76 rfl (nI_ge (by omega) (by omega)) ?_
    refine Ew.aload_n hx dX7_copyFrom_79 rfl ?_
    refine Ew.getR (S + 7) hx dX7_copyFrom_80 fg_RX7_33 (hS.1) (by omega) ?_
    refine Ew.iload_n hx dX7_copyFrom_83 rfl ?_
    refine Ew.aldq (S + 12 + i) hx dX7_copyFrom_84 rg_8 (hS.2.2.2.2.2.2.2.1) (rfl) (by omega) (by omega) ?_
    refine Ew.aload_n hx dX7_copyFrom_85 rfl ?_
    refine Ew.getR (Q + 7) hx dX7_copyFrom_86 fg_RX7_33 (hQ.1) (by omega) ?_
    refine Ew.iload_n hx dX7_copyFrom_89 rfl ?_
    refine Ew.aldq (Q + 12 + i) hx dX7_copyFrom_90 rg_8 (hQ.2.2.2.2.2.2.2.1) (rfl) (by omega) (by omega) ?_
    refine Ew.callV2 (y' := mX4_copyFrom) hx dX7_copyFrom_91 ml_RX7_56 cf_X4_copyFrom cv_X4_copyFrom (ct_X4_copyFrom G W (S + 12 + i) (Q + 12 + i) (hS.2.2.2.2.2.2.2.2.2 i (by omega)) (hQ.2.2.2.2.2.2.2.2.2 i (by omega)) (by omega) (by rw [hF _ (by omega)]; exact h01 i (by omega))) (hS.2.2.2.2.2.2.2.2.2 i (by omega)) oc_10 rfl (by decide) (by decide) rfl (Nat.le_of_ble_eq_true rfl) ?_
    rintro _ V9 ⟨rfl, h9⟩; subst V9
    refine Ew.iinc hx dX7_copyFrom_94 rfl (k_iinc_1 _) (by decide) rfl ?_
    refine Ew.goto hx (tgt := 71) dX7_copyFrom_97 rfl ?_
    rw [nI_1]
    refine ih (i + 1) (by omega) _ (hF.rs (by omega)) (by rw [rs_ne _ _ (by omega)]; exact eP) (hI.perm (by omega) (fun j hj => ?_))
    rw [cpF_lt hj, hF _ (by omega)]
    have q := cl_pm (S := Q) (p := i) (j := j) hj
    have q2 := hR (49 + 12 * i + j) (Or.inr (Or.inr ⟨by omega, by omega, by omega⟩))
    rw [q.1, q.2] at q2
    exact q2
set_option maxHeartbeats 4000000 in
set_option maxRecDepth 100000 in
theorem lp_X7_copyR {G : GT} {C : CT} {V : Mm} {s : Sv} {nr np S Q : Nat} (hS : Sn S) (hQ : Sn Q) (hd : S + 24 ≤ Q ∨ Q + 24 ≤ S) (hR : RepN V Q s nr np) (e2 : V Q 4 = nI nr) (hnr : nr ≤ 4) (e3 : V Q 5 = nI np) (hnp : np ≤ 12) (h01 : ∀ p, p < np → V (Q + 12 + p) 11 = 0 ∨ V (Q + 12 + p) 11 = 1) (hx : Cx G mX7_copyFrom 2 C) (hq0 : Cq G (fun v V9 => v = none ∧ RepN V9 S s nr np ∧ Fr S (S + 24) V V9) C) : ∀ (n i : Nat), i + n = nr → ∀ W : Mm, Fr S (S + 24) V W → W S 4 = nI nr → RepE W S s i 0 3 → Ew G C (W) 32 [some (adr G S), some (adr G Q), some (.int (nI i))] [] := by
  intro n
  induction n with
  | zero =>
    intro i hi W hF eP hI
    refine Ew.iload_n hx dX7_copyFrom_32 rfl ?_
    refine Ew.aload_n hx dX7_copyFrom_33 rfl ?_
    refine Ew.getI hx dX7_copyFrom_34 fg_RX7_46 (hS.1) ?_
    rw [eP]
    refine Ew.icmp_ge_t hx (tgt := 61) dX7_copyFrom_37 rfl (nI_le (by omega) (by omega)) ?_
    refine Ew.aload_n hx dX7_copyFrom_61 rfl ?_
    refine Ew.aload_n hx dX7_copyFrom_62 rfl ?_
    refine Ew.getI hx dX7_copyFrom_63 fg_RX7_53 (hQ.1) ?_
    refine Ew.putI hx dX7_copyFrom_66 pg_RX7_53 (hS.1) ?_
    refine Ew.iconst hx dX7_copyFrom_69 k_iconst_0 ?_
    refine Ew.istore_n hx dX7_copyFrom_70 (by decide) rfl ?_
    rw [show i = nr by omega] at hI
    have hq : W Q 5 = V Q 5 := by rw [hF Q (by omega)]
    refine lp_X7_copyP hS hQ hd hR e2 hnr e3 hnp h01 hx hq0 np 0 (by omega) _ (hF.mup (by omega)) (by rw [mup_self, hq, e3]) (fun m hm he => ?_)
    by_cases h3 : m = 3
    · subst h3
      have q2 := hR 3 (Or.inl (by decide))
      show mup W S 5 (W Q 5) S 5 = s 3
      rw [mup_self, hq]
      exact q2
    · rw [mup_oth]
      · exact hI m hm h3
      · by_cases h4 : m = 2
        · subst h4; exact Or.inr (by decide)
        · refine Or.inl ?_
          unfold clc
          repeat' split
          all_goals omega
  | succ n ih =>
    intro i hi W hF eP hI
    refine Ew.iload_n hx dX7_copyFrom_32 rfl ?_
    refine Ew.aload_n hx dX7_copyFrom_33 rfl ?_
    refine Ew.getI hx dX7_copyFrom_34 fg_RX7_46 (hS.1) ?_
    rw [eP]
    refine Ew.icmp_ge_f hx (tgt := 61) dX7_copyFrom_37 rfl (nI_ge (by omega) (by omega)) ?_
    refine Ew.aload_n hx dX7_copyFrom_40 rfl ?_
    refine Ew.getR (S + 6) hx dX7_copyFrom_41 fg_RX7_27 (hS.1) (by omega) ?_
    refine Ew.iload_n hx dX7_copyFrom_44 rfl ?_
    refine Ew.aldq (S + 8 + i) hx dX7_copyFrom_45 rg_7 (hS.2.2.2.2.2.2.1) (rfl) (by omega) (by omega) ?_
    refine Ew.aload_n hx dX7_copyFrom_46 rfl ?_
    refine Ew.getR (Q + 6) hx dX7_copyFrom_47 fg_RX7_27 (hQ.1) (by omega) ?_
    refine Ew.iload_n hx dX7_copyFrom_50 rfl ?_
    refine Ew.aldq (Q + 8 + i) hx dX7_copyFrom_51 rg_7 (hQ.2.2.2.2.2.2.1) (rfl) (by omega) (by omega) ?_
    refine Ew.callV2 (y' := mX6_copyFrom) hx dX7_copyFrom_52 ml_RX7_50 cf_X6_copyFrom cv_X6_copyFrom (ct_X6_copyFrom G W (S + 8 + i) (Q + 8 + i) (hS.2.2.2.2.2.2.2.2.1 i (by omega)) (hQ.2.2.2.2.2.2.2.2.1 i (by omega)) (by omega)) (hS.2.2.2.2.2.2.2.2.1 i (by omega)) oc_9 rfl (by decide) (by decide) rfl (Nat.le_of_ble_eq_true rfl) ?_
    rintro _ V9 ⟨rfl, h9⟩; subst V9
    refine Ew.iinc hx dX7_copyFrom_55 rfl (k_iinc_1 _) (by decide) rfl ?_
    refine Ew.goto hx (tgt := 32) dX7_copyFrom_58 rfl ?_
    rw [nI_1]
    refine ih (i + 1) (by omega) _ (hF.rs (by omega)) (by rw [rs_ne _ _ (by omega)]; exact eP) (hI.ramp (by omega) (fun j hj => ?_))
    rw [cpF_lt hj, hF _ (by omega)]
    have q := cl_rm (S := Q) (r := i) (j := j) (by omega) hj
    have q2 := hR (37 + 3 * i + j) (Or.inr (Or.inl ⟨by omega, by omega, by omega⟩))
    rw [q.1, q.2] at q2
    exact q2
set_option maxHeartbeats 4000000 in
set_option maxRecDepth 100000 in
theorem ct_X7_copyFrom (G : GT) (V : Mm) {s : Sv} {nr np S Q : Nat} (hS : Sn S) (hQ : Sn Q) (hd : S + 24 ≤ Q ∨ Q + 24 ≤ S) (hR : RepN V Q s nr np) (e2 : V Q 4 = nI nr) (hnr : nr ≤ 4) (e3 : V Q 5 = nI np) (hnp : np ≤ 12) (h01 : ∀ p, p < np → V (Q + 12 + p) 11 = 0 ∨ V (Q + 12 + p) 11 = 1) : Ct G mX7_copyFrom 2 [adr G S, adr G Q] (V) (fun v V9 => v = none ∧ RepN V9 S s nr np ∧ Fr S (S + 24) V V9) := by
  refine Ct.of cf_X7_copyFrom (List.forall_mem_cons.mpr ⟨rfl, List.forall_mem_cons.mpr ⟨rfl, fun _ h => absurd h List.not_mem_nil⟩⟩) (Nat.le_of_ble_eq_true rfl) (l0 := [some (adr G S), some (adr G Q), none]) rfl (fun C hx hq => ?_)
  refine Ew.aload_n hx dX7_copyFrom_0 rfl ?_
  refine Ew.getR (S + 1) hx dX7_copyFrom_1 fg_RX7_12 (hS.1) (by omega) ?_
  refine Ew.aload_n hx dX7_copyFrom_4 rfl ?_
  refine Ew.getR (Q + 1) hx dX7_copyFrom_5 fg_RX7_12 (hQ.1) (by omega) ?_
  refine Ew.callV2 (y' := mX10_copyFrom) hx dX7_copyFrom_8 ml_RX7_39 cf_X10_copyFrom cv_X10_copyFrom (ct_X10_copyFrom G V (S + 1) (Q + 1) hS.2.1 hQ.2.1 hS.2.2.1 hQ.2.2.1 (by omega) (by omega) (by omega)) (hS.2.1) oc_3 rfl (by decide) (by decide) rfl (Nat.le_of_ble_eq_true rfl) ?_
  rintro _ V9 ⟨rfl, h9⟩; subst V9
  refine Ew.aload_n hx dX7_copyFrom_11 rfl ?_
  refine Ew.getR (S + 3) hx dX7_copyFrom_12 fg_RX7_21 (hS.1) (by omega) ?_
  refine Ew.aload_n hx dX7_copyFrom_15 rfl ?_
  refine Ew.getR (Q + 3) hx dX7_copyFrom_16 fg_RX7_21 (hQ.1) (by omega) ?_
  refine Ew.callV2 (y' := mX2_copyFrom) hx dX7_copyFrom_19 ml_RX7_43 cf_X2_copyFrom cv_X2_copyFrom (ct_X2_copyFrom G _ (S + 3) (Q + 3) hS.2.2.2.1 hQ.2.2.2.1 hS.2.2.2.2.1 hQ.2.2.2.2.1 hS.2.2.2.2.2.1 hQ.2.2.2.2.2.1 (by omega) (by omega) (by omega) (by omega)) (hS.2.2.2.1) oc_5 rfl (by decide) (by decide) rfl (Nat.le_of_ble_eq_true rfl) ?_
  rintro _ V9 ⟨rfl, h9⟩; subst V9
  refine Ew.aload_n hx dX7_copyFrom_22 rfl ?_
  refine Ew.aload_n hx dX7_copyFrom_23 rfl ?_
  refine Ew.getI hx dX7_copyFrom_24 fg_RX7_46 (hQ.1) ?_
  refine Ew.putI hx dX7_copyFrom_27 pg_RX7_46 (hS.1) ?_
  refine Ew.iconst hx dX7_copyFrom_30 k_iconst_0 ?_
  refine Ew.istore_n hx dX7_copyFrom_31 (by decide) rfl ?_
  rw [rs_ne _ _ (show Q ≠ S + 3 by omega), rs_ne _ _ (show Q ≠ S + 3 + 2 by omega), rs_ne _ _ (show Q ≠ S + 3 + 1 by omega), rs_ne _ _ (show Q ≠ S + 1 + 1 by omega), rs_ne _ _ (show Q ≠ S + 1 by omega)]
  refine lp_X7_copyR hS hQ hd hR e2 hnr e3 hnp h01 hx hq nr 0 (by omega) _ ?_ ?_ ?_
  · exact (((((Fr.rfl'.rs (by omega)).rs (by omega)).rs (by omega)).rs (by omega)).rs (by omega)).mup (by omega)
  · rw [mup_self, e2]
  · intro m hm he
    have hl : m < 37 := by unfold rel at hm; omega
    have q := hR m (Or.inl hl)
    rw [← q]
    unfold clc csl
    by_cases c1 : m < 2
    · rw [if_pos c1, if_pos c1, if_pos c1, mup_oth _ _ _ _ (Or.inl (by omega)), rs_ne _ _ (by omega), rs_ne _ _ (by omega), rs_ne _ _ (by omega), rs_ne _ _ (by omega), rs_same, cpF_lt (by omega)]
    · rw [if_neg c1, if_neg c1, if_neg c1]
      by_cases c2 : m < 4
      · rw [if_pos c2, if_pos c2, if_pos c2, show m = 2 by omega]
        exact mup_self _ _ _ _
      · rw [if_neg c2, if_neg c2, if_neg c2]
        by_cases c3 : m < 7
        · rw [if_pos c3, if_pos c3, if_pos c3, mup_oth _ _ _ _ (Or.inl (by omega)), rs_ne _ _ (by omega), rs_ne _ _ (by omega), rs_same, cpF_lt (by omega), rs_ne _ _ (by omega), rs_ne _ _ (by omega)]
        · rw [if_neg c3, if_neg c3, if_neg c3]
          by_cases c4 : m < 10
          · rw [if_pos c4, if_pos c4, if_pos c4, mup_oth _ _ _ _ (Or.inl (by omega)), rs_ne _ _ (by omega), rs_same, cpF_lt (by omega), rs_ne _ _ (by omega), rs_ne _ _ (by omega)]
          · rw [if_neg c4, if_neg c4, if_neg c4]
            by_cases c5 : m = 10
            · rw [if_pos c5, if_pos c5, if_pos c5, mup_oth _ _ _ _ (Or.inl (by omega)), rs_same, upd_s, rs_ne _ _ (by omega), rs_ne _ _ (by omega)]
            · rw [if_neg c5, if_neg c5, if_neg c5, if_pos hl, if_pos hl, if_pos hl, mup_oth _ _ _ _ (Or.inl (by omega)), rs_ne _ _ (by omega), rs_ne _ _ (by omega), rs_ne _ _ (by omega), rs_same, cpF_lt (by omega)]
